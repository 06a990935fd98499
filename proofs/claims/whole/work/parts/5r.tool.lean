/-! OWN ROWS: the tool, as such and in the class. -/
def inp (w h : Nat) (fo : Nat → Nat) (a : Nat) (x y : Int) : Prop := ∃ i j : Nat, x = i ∧ y = j ∧ i < w ∧ j < h ∧ fo (j * w + i) = a
/-- the tool of radius r stands at (x, y) within the piece of a -/
def Fit (w h : Nat) (fo : Nat → Nat) (a r : Nat) (x y : Int) : Prop := ∀ i j : Int, x - r ≤ i → i ≤ x + r → y - r ≤ j → j ≤ y + r → inp w h fo a i j
def sq (r : Nat) (x y i j : Int) : Prop := x - r ≤ i ∧ i ≤ x + r ∧ y - r ≤ j ∧ j ≤ y + r
def Cov (w h : Nat) (fo : Nat → Nat) (a r : Nat) (i j : Int) : Prop := ∃ x y : Int, Fit w h fo a r x y ∧ sq r x y i j
theorem Fit_in {w h : Nat} {fo : Nat → Nat} {a r : Nat} {x y : Int} (hf : Fit w h fo a r x y) : (r : Int) ≤ x ∧ x + r < w ∧ (r : Int) ≤ y ∧ y + r < h := by
  obtain ⟨i, j, e1, e2, h1, h2, _⟩ := hf (x - r) (y - r) (by omega) (by omega) (by omega) (by omega)
  obtain ⟨i', j', e1', e2', h1', h2', _⟩ := hf (x + r) (y + r) (by omega) (by omega) (by omega) (by omega)
  omega
theorem Cov_in {w h : Nat} {fo : Nat → Nat} {a r k : Nat} (hk : k < w * h) (hc : Cov w h fo a r (k % w : Nat) (k / w : Nat)) : fo k = a := by
  obtain ⟨x, y, hf, s1, s2, s3, s4⟩ := hc
  obtain ⟨i, j, e1, e2, h1, h2, h3⟩ := hf _ _ s1 s2 s3 s4
  have e1' : k % w = i := by omega
  have e2' : k / w = j := by omega
  rw [← e1', ← e2', gr_k] at h3
  exact h3
section
variable {w h K : Nat} {G : pG} {f : Nat → Int32} {fo F : Nat → Nat} {c p : Nat}
theorem num_inp (P : PS w h f fo F c) (hp : p < c) (hN : w * h ≤ 400) (x y : Int) : (if pl w h x y = -1 then (-1 : Int32) else nI (cnt (fx fo) (fo (pl w h x y).toNat))) = nI p ↔ inp w h fo (F p) x y := by
  have hcN := PS_c P
  rcases pl_cases w h x y with ⟨h1, h2⟩ | ⟨a, b, ha, hb, hx, hy, hk, h1⟩
  · rw [if_pos h1]
    constructor
    · intro e; exact absurd e (nI_m1n (by omega))
    · rintro ⟨i, j, e1, e2, h3, h4, _⟩
      exact absurd ⟨by omega, by omega, by omega, by omega⟩ h2
  · have hn := Enu_num P.1 P.2.1 hk
    rw [h1, if_neg (by omega), Int.toNat_natCast, nI_eq (by omega) (by omega), nm_eq P.1 P.2.1 hk hp]
    constructor
    · intro e; exact ⟨a, b, hx, hy, ha, hb, e⟩
    · rintro ⟨i, j, e1, e2, h3, h4, h5⟩
      have : i = a := by omega
      have : j = b := by omega
      subst i; subst j
      exact h5
theorem k_fits (H : GI w h K G) (P : PS w h f fo F c) {u : pS} (C : CPw w (w * h) fo u) (hp : p < c) {r : Nat} (hr : r ≤ 10) {x y : Int} (x1 : -50 ≤ x) (x2 : x ≤ 50) (y1 : -50 ≤ y) (y2 : y ≤ 50) {Q : Int32 → pS → Prop} (q1 : Fit w h fo (F p) r x y → Q 1 u) (q0 : ¬ Fit w h fo (F p) r x y → Q 0 u) : wp_Tool_fits G (nI p) (zI x) (zI y) (nI r) u Q := by
  have B := gB H
  unfold wp_Tool_fits
  intro t1 ht1
  rw [nI_z r, zI_sub] at ht1
  have inner : ∀ (k6 : Int32 → Int32 → Int32 → Int32 → Int32 → pS → Prop) (j : Int), y - r ≤ j → j ≤ y + r → ((∀ i, x - r ≤ i → i ≤ x + r → inp w h fo (F p) i j) → k6 (nI p) (zI x) (zI y) (nI r) (zI (j + 1)) u) → ∀ (d : Nat) (i : Int), i + d = x + r + 1 → x - r ≤ i → (∀ i', x - r ≤ i' → i' < i → inp w h fo (F p) i' j) → lp_Tool_fits_21 G Q k6 (d + 1) (nI p) (zI x) (zI y) (nI r) (zI j) (zI i) u := by
    intro k6 j hj1 hj2 hk6 d
    induction d with
    | zero =>
      intro i hd hi1 hin
      unfold lp_Tool_fits_21
      simp only [forall_eq]
      rw [nI_z r, zI_add, zI_lt (by omega) (by omega) (by omega) (by omega), lz_1, zI_add, ← nI_z]
      exact b_t (by omega) (hk6 (fun i' a1 a2 => hin i' a1 (by omega)))
    | succ d ih =>
      intro i hd hi1 hin
      unfold lp_Tool_fits_21
      rw [nI_z r, zI_add, zI_lt (by omega) (by omega) (by omega) (by omega)]
      refine b_f (by omega) ?_
      rw [e_num H P C (by omega) (by omega) (by omega) (by omega), num_inp P hp (by omega)]
      simp only [forall_eq]
      rw [lz_1, zI_add, ← nI_z]
      refine ⟨fun e => ih (i + 1) (by omega) (by omega) (fun i' a1 a2 => ?_), fun e => q0 (fun hf => e (hf i j hi1 (by omega) hj1 hj2))⟩
      by_cases ei : i' = i
      · rw [ei]; exact e
      · exact hin i' a1 (by omega)
  suffices hl : ∀ (d : Nat) (j : Int), j + d = y + r + 1 → y - r ≤ j → (∀ i j', x - r ≤ i → i ≤ x + r → y - r ≤ j' → j' < j → inp w h fo (F p) i j') → lp_Tool_fits_6 G Q (d + 1) (nI p) (zI x) (zI y) (nI r) (zI j) u by
    refine ⟨2 * r + 1 + 1, ?_⟩
    rw [ht1]
    exact hl (2 * r + 1) (y - r) (by omega) (by omega) (fun i j' _ _ a1 a2 => absurd a2 (by omega))
  intro d
  induction d with
  | zero =>
    intro j hd hj hin
    unfold lp_Tool_fits_6
    rw [nI_z r, zI_add, zI_lt (by omega) (by omega) (by omega) (by omega)]
    exact b_t (by omega) (q1 (fun i j' a1 a2 a3 a4 => hin i j' a1 a2 a3 (by omega)))
  | succ d ih =>
    intro j hd hj hin
    unfold lp_Tool_fits_6
    rw [nI_z r, zI_add, zI_lt (by omega) (by omega) (by omega) (by omega)]
    refine b_f (by omega) ?_
    intro t3 ht3
    rw [ht3, zI_sub, ← nI_z]
    refine ⟨2 * r + 1 + 1, inner _ j hj (by omega) (fun hrow => ?_) (2 * r + 1) (x - r) (by omega) (by omega) (fun i' a1 a2 => absurd a2 (by omega))⟩
    refine ih (j + 1) (by omega) (by omega) (fun i j' a1 a2 a3 a4 => ?_)
    by_cases ej : j' = j
    · rw [ej]; exact hrow i a1 a2
    · exact hin i j' a1 a2 a3 (by omega)
theorem nar1 : vp_nar .boolean 1 = 1 := rfl
theorem nar0 : vp_nar .boolean 0 = 0 := rfl
/-- mk: what is marked -/
def MK (N : Nat) (u : pS) (mk : Nat → Bool) : Prop := (∀ k, k < N → u.2 20 k = bI (mk k)) ∧ u.1 7 = nI (cnt mk N)
theorem k_mark (H : GI w h K G) {u0 : pS} {mk0 : Nat → Bool} (M0 : MK (w * h) u0 mk0) {r : Nat} (hr : r ≤ 10) {x y : Int} (x1 : -50 ≤ x) (x2 : x ≤ 50) (y1 : -50 ≤ y) (y2 : y ≤ 50) {Q : pS → Prop}
    (hQ : ∀ u mk, fr [20] [7] u0 u → MK (w * h) u mk → (∀ k, k < w * h → (mk k = true ↔ (mk0 k = true ∨ sq r x y (k % w : Nat) (k / w : Nat)))) → Q u) : wp_Tool_mark G (zI x) (zI y) (nI r) u0 Q := by
  have B := gB H
  unfold wp_Tool_mark
  intro t1 ht1
  rw [nI_z r, zI_sub] at ht1
  have inner : ∀ (k5 : Int32 → Int32 → Int32 → Int32 → pS → Prop) (j : Int) (ub : pS) (mb : Nat → Bool), y - r ≤ j → j ≤ y + r → (∀ (u : pS) (mk : Nat → Bool), fr [20] [7] ub u → MK (w * h) u mk → (∀ k, k < w * h → (mk k = true ↔ (mb k = true ∨ (x - r ≤ ((k % w : Nat) : Int) ∧ ((k % w : Nat) : Int) ≤ x + r ∧ ((k / w : Nat) : Int) = j)))) → k5 (zI x) (zI y) (nI r) (zI (j + 1)) u) →
      ∀ (d : Nat) (i : Int) (u : pS) (mk : Nat → Bool), i + d = x + r + 1 → x - r ≤ i → fr [20] [7] ub u → MK (w * h) u mk → (∀ k, k < w * h → (mk k = true ↔ (mb k = true ∨ (x - r ≤ ((k % w : Nat) : Int) ∧ ((k % w : Nat) : Int) < i ∧ ((k / w : Nat) : Int) = j)))) → lp_Tool_mark_18 G Q k5 (d + 1) (zI x) (zI y) (nI r) (zI j) (zI i) u := by
    intro k5 j ub mb hj1 hj2 hk5 d
    induction d with
    | zero =>
      intro i u mk hd hi hfr hM hm
      unfold lp_Tool_mark_18
      simp only [forall_eq]
      rw [nI_z r, zI_add, zI_lt (by omega) (by omega) (by omega) (by omega), lz_1, zI_add, ← nI_z]
      refine b_t (by omega) (hk5 u mk hfr hM (fun k hk => ?_))
      rw [hm k hk]
      constructor
      · rintro (a | a)
        · exact Or.inl a
        · exact Or.inr ⟨a.1, by omega, a.2.2⟩
      · rintro (a | a)
        · exact Or.inl a
        · exact Or.inr ⟨a.1, by omega, a.2.2⟩
    | succ d ih =>
      intro i u mk hd hi hfr hM hm
      unfold lp_Tool_mark_18
      rw [nI_z r, zI_add, zI_lt (by omega) (by omega) (by omega) (by omega)]
      refine b_f (by omega) ?_
      rw [e_plc H (by omega) (by omega) (by omega) (by omega)]
      simp only [forall_eq, gl_34 H]
      rw [show zI i + 1 = zI (i + 1) by rw [lz_1, zI_add], ← nI_z]
      rcases pl_cases w h i j with ⟨h1, h2⟩ | ⟨a, b, ha, hb, hia, hjb, hk, h1⟩
      · rw [h1]
        refine b_t lz_m1.symm (ih (i + 1) u mk (by omega) (by omega) hfr hM (fun k hk => ?_))
        rw [hm k hk]
        have g1 := gr_x hk
        have g2 := gr_y hk
        constructor
        · rintro (a | a)
          · exact Or.inl a
          · exact Or.inr ⟨a.1, by omega, a.2.2⟩
        · rintro (a | a)
          · exact Or.inl a
          · refine Or.inr ⟨a.1, ?_, a.2.2⟩
            rcases (show ((k % w : Nat) : Int) < i ∨ i ≤ ((k % w : Nat) : Int) by omega) with hlt | hge
            · exact hlt
            · exfalso
              apply h2
              have : ((k % w : Nat) : Int) = i := by omega
              rw [← this, ← a.2.2]
              exact ⟨Int.ofNat_zero_le _, Int.ofNat_lt.mpr g1, Int.ofNat_zero_le _, Int.ofNat_lt.mpr g2⟩
      · rw [h1, ← nI_z, nI_clamp (by omega), hM.1 _ hk]
        have hkm : ((b * w + a) % w : Nat) = a := gr_mod ha
        have hkd : ((b * w + a) / w : Nat) = b := gr_div ha
        generalize hkk : b * w + a = k at hk hkm hkd
        refine b_f (nI_nm1 (by omega)) ⟨vp_in_nI hk (by omega), ?_⟩
        have other : ∀ k', k' < w * h → k' ≠ k → ((x - r ≤ ((k' % w : Nat) : Int) ∧ ((k' % w : Nat) : Int) < i + 1 ∧ ((k' / w : Nat) : Int) = j) ↔ (x - r ≤ ((k' % w : Nat) : Int) ∧ ((k' % w : Nat) : Int) < i ∧ ((k' / w : Nat) : Int) = j)) := by
          intro k' hk' hne
          constructor
          · rintro ⟨c1, c2, c3⟩
            refine ⟨c1, ?_, c3⟩
            rcases (show ((k' % w : Nat) : Int) < i ∨ i ≤ ((k' % w : Nat) : Int) by omega) with hlt | hge
            · exact hlt
            · exfalso
              apply hne
              have e1 : k' % w = a := by omega
              have e2 : k' / w = b := by omega
              rw [← gr_k w k', e1, e2, hkk]
          · rintro ⟨c1, c2, c3⟩
            exact ⟨c1, by omega, c3⟩
        have self : x - r ≤ ((k % w : Nat) : Int) ∧ ((k % w : Nat) : Int) < i + 1 ∧ ((k / w : Nat) : Int) = j := by
          rw [hkm, hkd]; omega
        cases em : mk k with
        | true =>
          refine b_f (by decide) (ih (i + 1) u mk (by omega) (by omega) hfr hM (fun k' hk' => ?_))
          by_cases ek : k' = k
          · rw [ek]
            exact ⟨fun _ => Or.inr self, fun _ => em⟩
          · rw [hm k' hk', other k' hk' ek]
        | false =>
          refine b_t rfl ⟨vp_in_nI hk (by omega), ?_⟩
          refine ih (i + 1) _ (fun k' => mk k' || k' == k) (by omega) (by omega) (fr_si _ (by decide) (fr_sa _ (by decide) hfr)) ⟨fun k' hk' => ?_, ?_⟩ (fun k' hk' => ?_)
          · rw [si_a, sa_eq, nar1]
            by_cases ek : k' = k
            · rw [ek, upd_eq]; simp [bI]
            · dsimp only
              rw [upd_ne _ _ ek, hM.1 k' hk', show (k' == k) = false from beq_eq_false_iff_ne.mpr ek, Bool.or_false]
          · rw [si_eq, sa_i, hM.2, nI_1, cnt_upd (P := mk) (Q := fun k' => mk k' || k' == k) hk em (by simp) (fun k' _ hne => by simp [hne])]
          · by_cases ek : k' = k
            · rw [ek]
              exact ⟨fun _ => Or.inr self, fun _ => by simp⟩
            · have : (mk k' || k' == k) = mk k' := by simp [ek]
              rw [this, hm k' hk', other k' hk' ek]
  suffices hl : ∀ (d : Nat) (j : Int) (u : pS) (mk : Nat → Bool), j + d = y + r + 1 → y - r ≤ j → fr [20] [7] u0 u → MK (w * h) u mk → (∀ k, k < w * h → (mk k = true ↔ (mk0 k = true ∨ (x - r ≤ ((k % w : Nat) : Int) ∧ ((k % w : Nat) : Int) ≤ x + r ∧ y - r ≤ ((k / w : Nat) : Int) ∧ ((k / w : Nat) : Int) < j)))) → lp_Tool_mark_5 G Q (d + 1) (zI x) (zI y) (nI r) (zI j) u by
    refine ⟨2 * r + 1 + 1, ?_⟩
    rw [ht1]
    refine hl (2 * r + 1) (y - r) u0 mk0 (by omega) (by omega) (fr_refl _ _ _) M0 (fun k hk => ⟨fun a => Or.inl a, ?_⟩)
    rintro (a | a)
    · exact a
    · omega
  intro d
  induction d with
  | zero =>
    intro j u mk hd hj hfr hM hm
    unfold lp_Tool_mark_5
    rw [nI_z r, zI_add, zI_lt (by omega) (by omega) (by omega) (by omega)]
    refine b_t (by omega) (hQ u mk hfr hM (fun k hk => ?_))
    rw [hm k hk]
    unfold sq
    constructor
    · rintro (a | a)
      · exact Or.inl a
      · exact Or.inr ⟨a.1, a.2.1, a.2.2.1, by omega⟩
    · rintro (a | a)
      · exact Or.inl a
      · exact Or.inr ⟨a.1, a.2.1, a.2.2.1, by omega⟩
  | succ d ih =>
    intro j u mk hd hj hfr hM hm
    unfold lp_Tool_mark_5
    rw [nI_z r, zI_add, zI_lt (by omega) (by omega) (by omega) (by omega)]
    refine b_f (by omega) ?_
    intro t3 ht3
    rw [ht3, zI_sub, ← nI_z]
    refine ⟨2 * r + 1 + 1, inner _ j u mk hj (by omega) (fun u2 mk2 f2 M2 hm2 => ?_) (2 * r + 1) (x - r) u mk (by omega) (by omega) (fr_refl _ _ _) hM (fun k hk => ⟨fun a => Or.inl a, ?_⟩)⟩
    · refine ih (j + 1) u2 mk2 (by omega) (by omega) (fr_trans hfr f2) M2 (fun k hk => ?_)
      rw [hm2 k hk, hm k hk]
      constructor
      · rintro ((a | a) | a)
        · exact Or.inl a
        · exact Or.inr ⟨a.1, a.2.1, a.2.2.1, by omega⟩
        · exact Or.inr ⟨a.1, a.2.1, by omega, by omega⟩
      · rintro (a | a)
        · exact Or.inl (Or.inl a)
        · by_cases e : ((k / w : Nat) : Int) = j
          · exact Or.inr ⟨a.1, a.2.1, e⟩
          · exact Or.inl (Or.inr ⟨a.1, a.2.1, a.2.2.1, by omega⟩)
    · rintro (a | a)
      · exact a
      · omega
theorem k_cover (H : GI w h K G) (P : PS w h f fo F c) {u0 : pS} (C : CPw w (w * h) fo u0) (hp : p < c) {r : Nat} (hr : r ≤ 10) {Q : pS → Prop}
    (hQ : ∀ u mk, fr [20] [7] u0 u → MK (w * h) u mk → (∀ k, k < w * h → (mk k = true ↔ Cov w h fo (F p) r (k % w : Nat) (k / w : Nat))) → Q u) : wp_Tool_cover G (nI p) (nI r) u0 Q := by
  have B := gB H
  unfold wp_Tool_cover
  have inner : ∀ (k33 : Int32 → Int32 → Int32 → pS → Prop) (y : Nat) (ub : pS) (mb : Nat → Bool), r ≤ y → y < h → fr [20] [7] u0 ub → (∀ (u : pS) (mk : Nat → Bool), fr [20] [7] ub u → MK (w * h) u mk → (∀ k, k < w * h → (mk k = true ↔ (mb k = true ∨ ∃ x : Int, Fit w h fo (F p) r x y ∧ sq r x y (k % w : Nat) (k / w : Nat)))) → k33 (nI p) (nI r) (nI (y + 1)) u) →
      ∀ (d x : Nat) (u : pS) (mk : Nat → Bool), w ≤ x + d → r ≤ x → x ≤ 40 → fr [20] [7] ub u → MK (w * h) u mk → (∀ k, k < w * h → (mk k = true ↔ (mb k = true ∨ ∃ x' : Int, x' < x ∧ Fit w h fo (F p) r x' y ∧ sq r x' y (k % w : Nat) (k / w : Nat)))) → lp_Tool_cover_49 G Q k33 (d + 1) (nI p) (nI r) (nI y) (nI x) u := by
    intro k33 y ub mb hy1 hy2 hub hk33 d
    have done : ∀ (x : Nat) (u : pS) (mk : Nat → Bool), (w : Int) - r ≤ x → fr [20] [7] ub u → MK (w * h) u mk → (∀ k, k < w * h → (mk k = true ↔ (mb k = true ∨ ∃ x' : Int, x' < x ∧ Fit w h fo (F p) r x' y ∧ sq r x' y (k % w : Nat) (k / w : Nat)))) → k33 (nI p) (nI r) (nI (y + 1)) u := by
      intro x u mk hx hfr hM hm
      refine hk33 u mk hfr hM (fun k hk => ?_)
      rw [hm k hk]
      constructor
      · rintro (a | ⟨x', _, a2, a3⟩)
        · exact Or.inl a
        · exact Or.inr ⟨x', a2, a3⟩
      · rintro (a | ⟨x', a2, a3⟩)
        · exact Or.inl a
        · have := Fit_in a2
          exact Or.inr ⟨x', by omega, a2, a3⟩
    induction d with
    | zero =>
      intro x u mk hd hx hx40 hfr hM hm
      unfold lp_Tool_cover_49
      simp only [forall_eq, nI_1]
      rw [gp_1 H, nI_z w, nI_z r, zI_sub, nI_z x, zI_le (by omega) (by omega) (by omega) (by omega), ← nI_z]
      exact b_t (by omega) (done x u mk (by omega) hfr hM hm)
    | succ d ih =>
      intro x u mk hd hx hx40 hfr hM hm
      unfold lp_Tool_cover_49
      simp only [forall_eq, nI_1]
      have ccond : G.2.1 1 - nI r ≤ nI x ↔ (w : Int) - r ≤ x := by rw [gp_1 H, nI_z w, nI_z r, zI_sub, nI_z x]; exact zI_le (by omega) (by omega) (by omega) (by omega)
      rw [ccond]
      by_cases e : (w : Int) - r ≤ x
      · exact b_t e (done x u mk e hfr hM hm)
      · refine b_f e ?_
        have step : ∀ (u2 : pS) (mk2 : Nat → Bool), fr [20] [7] ub u2 → MK (w * h) u2 mk2 → (∀ k, k < w * h → (mk2 k = true ↔ (mk k = true ∨ (Fit w h fo (F p) r x y ∧ sq r x y (k % w : Nat) (k / w : Nat))))) → lp_Tool_cover_49 G Q k33 (d + 1) (nI p) (nI r) (nI y) (nI (x + 1)) u2 := by
          intro u2 mk2 f2 M2 hm2
          refine ih (x + 1) u2 mk2 (by omega) (by omega) (by omega) f2 M2 (fun k hk => ?_)
          rw [hm2 k hk, hm k hk]
          constructor
          · rintro ((a | ⟨x', a1, a2, a3⟩) | ⟨a2, a3⟩)
            · exact Or.inl a
            · exact Or.inr ⟨x', by omega, a2, a3⟩
            · exact Or.inr ⟨x, by omega, a2, a3⟩
          · rintro (a | ⟨x', a1, a2, a3⟩)
            · exact Or.inl (Or.inl a)
            · by_cases ex : x' = x
              · rw [ex] at a2 a3; exact Or.inr ⟨a2, a3⟩
              · exact Or.inl (Or.inr ⟨x', by omega, a2, a3⟩)
        rw [nI_z x, nI_z y]
        refine k_fits H P (CPw_fr C (fr_trans hub hfr)) hp hr (by omega) (by omega) (by omega) (by omega) (fun hfit => ?_) (fun hnf => ?_)
        · refine b_f (by decide) ?_
          refine k_mark H hM hr (by omega) (by omega) (by omega) (by omega) ?_
          intro u2 mk2 f2 M2 hm2
          rw [← nI_z]
          refine step u2 mk2 (fr_trans hfr f2) M2 (fun k hk => ?_)
          rw [hm2 k hk]
          exact ⟨fun a => a.elim Or.inl (fun b => Or.inr ⟨hfit, b⟩), fun a => a.elim Or.inl (fun b => Or.inr b.2)⟩
        · rw [← nI_z]
          refine b_t rfl (step u mk hfr hM (fun k hk => ⟨Or.inl, ?_⟩))
          rintro (a | a)
          · exact a
          · exact absurd a.1 hnf
  have outer : ∀ (d y : Nat) (u : pS) (mk : Nat → Bool), h ≤ y + d → r ≤ y → y ≤ 40 → fr [20] [7] u0 u → MK (w * h) u mk → (∀ k, k < w * h → (mk k = true ↔ ∃ x' y' : Int, y' < y ∧ Fit w h fo (F p) r x' y' ∧ sq r x' y' (k % w : Nat) (k / w : Nat))) → lp_Tool_cover_33 G Q (d + 1) (nI p) (nI r) (nI y) u := by
    intro d
    have done : ∀ (y : Nat) (u : pS) (mk : Nat → Bool), (h : Int) - r ≤ y → fr [20] [7] u0 u → MK (w * h) u mk → (∀ k, k < w * h → (mk k = true ↔ ∃ x' y' : Int, y' < y ∧ Fit w h fo (F p) r x' y' ∧ sq r x' y' (k % w : Nat) (k / w : Nat))) → Q u := by
      intro y u mk hy hfr hM hm
      refine hQ u mk hfr hM (fun k hk => ?_)
      rw [hm k hk]
      constructor
      · rintro ⟨x', y', _, a2, a3⟩; exact ⟨x', y', a2, a3⟩
      · rintro ⟨x', y', a2, a3⟩
        have := Fit_in a2
        exact ⟨x', y', by omega, a2, a3⟩
    induction d with
    | zero =>
      intro y u mk hd hy hy40 hfr hM hm
      unfold lp_Tool_cover_33
      have ccond : G.2.1 2 - nI r ≤ nI y ↔ (h : Int) - r ≤ y := by rw [gp_2 H, nI_z h, nI_z r, zI_sub, nI_z y]; exact zI_le (by omega) (by omega) (by omega) (by omega)
      rw [ccond]
      exact b_t (by omega) (done y u mk (by omega) hfr hM hm)
    | succ d ih =>
      intro y u mk hd hy hy40 hfr hM hm
      unfold lp_Tool_cover_33
      have ccond : G.2.1 2 - nI r ≤ nI y ↔ (h : Int) - r ≤ y := by rw [gp_2 H, nI_z h, nI_z r, zI_sub, nI_z y]; exact zI_le (by omega) (by omega) (by omega) (by omega)
      rw [ccond]
      by_cases e : (h : Int) - r ≤ y
      · exact b_t e (done y u mk e hfr hM hm)
      · refine b_f e ⟨w + 1, ?_⟩
        refine inner _ y u mk hy (by omega) hfr ?_ w r u mk (by omega) (Nat.le_refl _) (by omega) (fr_refl _ _ _) hM (fun k hk => ⟨Or.inl, ?_⟩)
        · intro u2 mk2 f2 M2 hm2
          refine ih (y + 1) u2 mk2 (by omega) (by omega) (by omega) (fr_trans hfr f2) M2 (fun k hk => ?_)
          rw [hm2 k hk, hm k hk]
          constructor
          · rintro (⟨x', y', a1, a2, a3⟩ | ⟨x', a2, a3⟩)
            · exact ⟨x', y', by omega, a2, a3⟩
            · exact ⟨x', y, by omega, a2, a3⟩
          · rintro ⟨x', y', a1, a2, a3⟩
            by_cases ey : y' = y
            · rw [ey] at a2 a3; exact Or.inr ⟨x', a2, a3⟩
            · exact Or.inl ⟨x', y', by omega, a2, a3⟩
        · rintro (a | ⟨x', a1, a2, a3⟩)
          · exact a
          · have := Fit_in a2
            omega
  suffices hl : ∀ (d k : Nat) (u : pS), k + d = w * h → fr [20] [7] u0 u → (∀ j, j < k → u.2 20 j = 0) → lp_Tool_cover_2 G Q (d + 1) (nI p) (nI r) (nI k) u from
    ⟨w * h + 1, by rw [li_0]; exact hl (w * h) 0 u0 (by omega) (fr_refl _ _ _) (fun j hj => absurd hj (Nat.not_lt_zero j))⟩
  intro d
  induction d with
  | zero =>
    intro k u hd hfr h20
    unfold lp_Tool_cover_2
    refine b_t (by rw [gp_3 H]; exact nI_le (by omega) (by omega)) ?_
    intro u2 hu2
    refine ⟨h + 1, outer h r u2 (fun _ => false) (by omega) (Nat.le_refl _) (by omega) ?_ ⟨fun j hj => ?_, ?_⟩ (fun j hj => ⟨fun a => absurd a (by decide), ?_⟩)⟩
    · rw [hu2]; exact fr_si _ (by decide) hfr
    · rw [hu2, si_a]; exact h20 j (by omega)
    · rw [hu2, si_eq, cnt_0 (fun _ _ => rfl)]; exact li_0
    · rintro ⟨x', y', a1, a2, a3⟩
      have := Fit_in a2
      omega
  | succ d ih =>
    intro k u hd hfr h20
    unfold lp_Tool_cover_2
    rw [gp_3 H, gl_34 H, nI_clamp (n := k) (by omega)]
    simp only [forall_eq, nI_1]
    refine b_f (nI_ge (by omega) (by omega)) ⟨vp_in_nI (by omega) (by omega), ih (k + 1) _ (by omega) (fr_sa _ (by decide) hfr) (fun j hj => ?_)⟩
    rw [sa_eq, nar0]
    by_cases e : j = k
    · rw [e, upd_eq]
    · rw [upd_ne _ _ e]; exact h20 j (by omega)
end
