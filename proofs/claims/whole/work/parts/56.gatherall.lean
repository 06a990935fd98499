/-! OWN ROWS: gatherAll. -/
/-- the class's pieces are those of fo -/
def CPw (w N : Nat) (fo : Nat → Nat) (u : pS) : Prop := (∀ k, k < N → u.2 7 k = nI (cnt (fx fo) (fo k))) ∧ u.1 2 = nI (cnt (fx fo) N) ∧ ∀ k, k < N → fo k = k → PcR w N fo u k (cnt (fx fo) k)
theorem PcR_same {w N : Nat} {fo : Nat → Nat} {u v : pS} {k p : Nat} (h : PcR w N fo u k p) (e : v.2 10 p = u.2 10 p ∧ v.2 11 p = u.2 11 p ∧ v.2 12 p = u.2 12 p ∧ v.2 13 p = u.2 13 p ∧ v.2 14 p = u.2 14 p) : PcR w N fo v k p := by
  unfold PcR
  rw [e.1, e.2.1, e.2.2.1, e.2.2.2.1, e.2.2.2.2]
  exact h
theorem CPw_fr {w N : Nat} {fo : Nat → Nat} {u v : pS} {A I : List Nat} (h : CPw w N fo u) (hf : fr A I u v) (h7 : 7 ∉ A := by decide) (h10 : 10 ∉ A := by decide) (h11 : 11 ∉ A := by decide) (h12 : 12 ∉ A := by decide) (h13 : 13 ∉ A := by decide) (h14 : 14 ∉ A := by decide) (h2 : 2 ∉ I := by decide) : CPw w N fo v := by
  unfold CPw
  rw [hf.1 7 h7, hf.2 2 h2]
  refine ⟨h.1, h.2.1, fun k hk e => PcR_same (h.2.2 k hk e) ?_⟩
  rw [hf.1 10 h10, hf.1 11 h11, hf.1 12 h12, hf.1 13 h13, hf.1 14 h14]
  exact ⟨rfl, rfl, rfl, rfl, rfl⟩
section
variable {w h K : Nat} {G : pG}
theorem k_fill7 (H : GI w h K G) {x : Int32} {Q : pS → Prop} {u0 : pS} (hQ : ∀ u, fr [7] [] u0 u → (∀ k, k < w * h → u.2 7 k = x) → Q u) : wp_Arrays_fill_numberAt G x u0 Q := by
  have B := gB H
  unfold wp_Arrays_fill_numberAt
  intro t ht
  rw [ht, gl_21 H]
  suffices hs : ∀ (d i : Nat) (u : pS), i + d = w * h → fr [7] [] u0 u → (∀ k, k < i → u.2 7 k = x) → lp_Arrays_fill_numberAt_5 G Q (d + 1) x (nI i) (nI (w * h)) u from
    ⟨w * h + 1, by rw [li_0]; exact hs (w * h) 0 u0 (by omega) (fr_refl _ _ _) (fun k hk => absurd hk (Nat.not_lt_zero k))⟩
  intro d
  induction d with
  | zero =>
    intro i u hd hf hx
    unfold lp_Arrays_fill_numberAt_5
    exact b_t (nI_le (by omega) (by omega)) (hQ u hf (fun k hk => hx k (by omega)))
  | succ d ih =>
    intro i u hd hf hx
    unfold lp_Arrays_fill_numberAt_5
    refine b_f (nI_ge (by omega) (by omega)) ⟨by rw [gl_21 H]; exact vp_in_nI (by omega) (by omega), ?_⟩
    rw [nI_clamp (by omega)]
    intro u3 hu3 t4 ht4
    rw [ht4, nI_1, hu3]
    refine ih (i + 1) _ (by omega) (fr_sa _ (by decide) hf) (fun k hk => ?_)
    rw [sa_eq]
    by_cases e : k = i
    · rw [e, upd_eq]
    · rw [upd_ne _ _ e]; exact hx k (by omega)
theorem k_fill9 (H : GI w h K G) {x : Int32} {Q : pS → Prop} {u0 : pS} (hQ : ∀ u, fr [9] [] u0 u → (∀ k, k < w * h → u.2 9 k = x) → Q u) : wp_Arrays_fill_sides G x u0 Q := by
  have B := gB H
  unfold wp_Arrays_fill_sides
  intro t ht
  rw [ht, gl_23 H]
  suffices hs : ∀ (d i : Nat) (u : pS), i + d = w * h → fr [9] [] u0 u → (∀ k, k < i → u.2 9 k = x) → lp_Arrays_fill_sides_5 G Q (d + 1) x (nI i) (nI (w * h)) u from
    ⟨w * h + 1, by rw [li_0]; exact hs (w * h) 0 u0 (by omega) (fr_refl _ _ _) (fun k hk => absurd hk (Nat.not_lt_zero k))⟩
  intro d
  induction d with
  | zero =>
    intro i u hd hf hx
    unfold lp_Arrays_fill_sides_5
    exact b_t (nI_le (by omega) (by omega)) (hQ u hf (fun k hk => hx k (by omega)))
  | succ d ih =>
    intro i u hd hf hx
    unfold lp_Arrays_fill_sides_5
    refine b_f (nI_ge (by omega) (by omega)) ⟨by rw [gl_23 H]; exact vp_in_nI (by omega) (by omega), ?_⟩
    rw [nI_clamp (by omega)]
    intro u3 hu3 t4 ht4
    rw [ht4, nI_1, hu3]
    refine ih (i + 1) _ (by omega) (fr_sa _ (by decide) hf) (fun k hk => ?_)
    rw [sa_eq]
    by_cases e : k = i
    · rw [e, upd_eq]
    · rw [upd_ne _ _ e]; exact hx k (by omega)
theorem k_gatherAll (H : GI w h K G) {u0 : pS} {fo : Nat → Nat} (hfo : IsFo (Rg w h (u0.2 6)) (w * h) fo) {Q : pS → Prop} (hQ : ∀ u, fr [7, 8, 10, 11, 12, 13, 14] [2] u0 u → CPw w (w * h) fo u → Q u) : wp_Pieces_gatherAll G u0 Q := by
  have B := gB H
  unfold wp_Pieces_gatherAll
  refine k_fill7 H ?_
  intro u1 f1 h1 u2 hu2
  suffices hs : ∀ (d p : Nat) (u : pS), p + d = w * h → fr [7, 8, 10, 11, 12, 13, 14] [2] u0 u → (∀ k, k < w * h → u.2 7 k = if fo k < p then nI (cnt (fx fo) (fo k)) else -1) → u.1 2 = nI (cnt (fx fo) p) → (∀ k, k < p → fo k = k → PcR w (w * h) fo u k (cnt (fx fo) k)) → lp_Pieces_gatherAll_15 G Q (d + 1) (nI p) u by
    refine ⟨w * h + 1, ?_⟩
    rw [li_0]
    refine hs (w * h) 0 u2 (by omega) ?_ ?_ ?_ (fun k hk => absurd hk (Nat.not_lt_zero k))
    · rw [hu2]; exact fr_si _ (by decide) (fr_mono f1 (by decide) (by decide))
    · intro k hk
      rw [if_neg (Nat.not_lt_zero _), hu2, si_a]; exact h1 k hk
    · rw [hu2, si_eq, li_0]; rfl
  intro d
  induction d with
  | zero =>
    intro p u hd hf h7 h2 hR
    have e : p = w * h := by omega
    unfold lp_Pieces_gatherAll_15
    refine b_t (by rw [gp_3 H]; exact nI_le (by omega) (by omega)) (hQ u hf ⟨fun k hk => ?_, by rw [h2, e], fun k hk => hR k (by omega)⟩)
    have := fo_le hfo hk
    rw [h7 k hk, if_pos (by omega)]
  | succ d ih =>
    intro p u hd hf h7 h2 hR
    have hp : p < w * h := by omega
    have hcp := cnt_le (fx fo) p
    have hfp := fo_le hfo hp
    unfold lp_Pieces_gatherAll_15
    refine b_f (by rw [gp_3 H]; exact nI_ge (by omega) (by omega)) ⟨by rw [gl_21 H]; exact vp_in_nI (by omega) (by omega), ?_⟩
    rw [nI_clamp (by omega), h7 p hp, h2]
    by_cases e : fo p < p
    · rw [if_pos e]
      have hc := cnt_le (fx fo) (fo p)
      refine b_f (nI_nm1 (by omega)) ?_
      intro t ht
      rw [ht, nI_1]
      have ef : fx fo p = false := fx_f.mpr (by omega)
      have hne : ∀ k, k < w * h → fo k ≠ p := by
        intro k hk e2
        have := fo_fo hfo hk
        rw [e2] at this; omega
      refine ih (p + 1) u (by omega) hf ?_ ?_ ?_
      · intro k hk
        have := hne k hk
        rw [h7 k hk]
        by_cases e2 : fo k < p
        · rw [if_pos e2, if_pos (by omega)]
        · rw [if_neg e2, if_neg (by omega)]
      · rw [h2, cnt_s, ef]; rfl
      · intro k hk hkf
        by_cases e2 : k = p
        · rw [e2] at hkf; omega
        · exact hR k (by omega) hkf
    · rw [if_neg e]
      have efp : fo p = p := by omega
      have ef : fx fo p = true := fx_t.mpr efp
      refine b_t rfl ?_
      have h6 : u.2 6 = u0.2 6 := hf.1 6 (by decide)
      refine k_gather H hfo hp efp (by omega) h7 h6 ?_
      intro u6 f6 m7 mR moth u7 hu7 t8 ht8
      rw [ht8, nI_1]
      have fu7 : fr [7, 8, 10, 11, 12, 13, 14] [2] u u7 := by
        rw [hu7]; exact fr_si _ (by decide) (fr_mono f6 (by decide) (by decide))
      refine ih (p + 1) u7 (by omega) (fr_trans hf fu7) ?_ ?_ ?_
      · intro k hk
        rw [hu7, si_a, m7 k hk, h7 k hk]
        by_cases e2 : fo k = p
        · rw [if_pos e2, if_pos (by omega), e2]
        · rw [if_neg e2]
          by_cases e3 : fo k < p
          · rw [if_pos e3, if_pos (by omega)]
          · rw [if_neg e3, if_neg (by omega)]
      · rw [hu7, si_eq, f6.2 2 (by decide), h2, nI_1, cnt_s, ef]; rfl
      · intro k hk hkf
        have : PcR w (w * h) fo u6 k (cnt (fx fo) k) := by
          by_cases e2 : k = p
          · rw [e2]; exact mR
          · refine PcR_same (hR k (by omega) hkf) (moth _ ?_)
            have := cnt_at (P := fx fo) (show k < p by omega) (fx_t.mpr hkf)
            omega
        exact PcR_same this (by rw [hu7]; exact ⟨rfl, rfl, rfl, rfl, rfl⟩)
end
