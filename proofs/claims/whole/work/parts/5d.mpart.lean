/-! OWN ROWS: the reference's part, along the run of joinings. -/
section
variable {w h K : Nat} {G : pG}
theorem m_run (M : MI w h K G) {le : Nat} (hle : le ≤ 400) {Q : Int32 → pS → Prop} {g : Nat → Int32} {fg : Nat → Nat} (hg : IsFo (Rg w h g) (w * h) fg) : ∀ (n : Nat) (f : Nat → Int32) (v0 : pS), JRun w h le n f g → (∀ k, k < w * h → v0.2 2 k = f k) →
    (∀ v, fr [2, 3, 4, 5, 6] [1, 2, 4] v0 v → (∀ k, k < w * h → v.2 2 k = g k) → v.1 2 = 1 → v.1 4 = 0 → MPw (w * h) fg v → Q (v.1 1) v) →
    ∀ (Z : Int32 → pS → Prop), (∀ r v, lp_Model_part_72 G Q (n + 1) (nI le) r v → Z r v) → wp_Model_makePieces G v0 (fun v1 => wp_Model_smallest G (nI le) v1 (fun r v2 => Z r v2)) := by
  have B := mB M
  intro n
  induction n with
  | zero =>
    intro f v0 hJ hv hQ Z hZ
    obtain ⟨hfg, fo, F, c, s, P, hs, hno⟩ := hJ
    have hvg : ∀ k, k < w * h → v0.2 2 k = g k := fun k hk => (hv k hk).trans (hfg k hk)
    have hR : Rg w h (v0.2 2) = Rg w h g := Rg_congr hvg
    refine m_makePieces M (fo := fo) (by rw [hR]; exact P.1) ?_
    intro v1 f1 C1
    refine m_smallest M P C1 hle hs ?_
    rw [if_neg hno]
    refine hZ _ _ ?_
    unfold lp_Model_part_72
    refine b_t (by decide) ?_
    intro u9 hu9 u10 hu10
    have f10 : fr [2, 3, 4, 5, 6] [1, 2, 4] v0 u10 := by
      rw [hu10, hu9]
      exact fr_si _ (by decide) (fr_si _ (by decide) (fr_mono f1 (by decide) (by decide)))
    have C2 : MPw (w * h) fg u10 := by
      refine MPw_congr (fo := fo) ?_ (fun k hk => fo_uniq P.1 hg hk)
      rw [hu10, hu9]
      exact MPw_fr C1 (A := []) (I := [2, 4]) (fr_si _ (by decide) (fr_si _ (by decide) (fr_refl _ _ _)))
    refine hQ u10 f10 (fun k hk => ?_) ?_ ?_ C2
    · rw [hu10, hu9, si_a, si_a, f1.1 2 (by decide)]; exact hvg k hk
    · rw [hu10, si_ne _ _ (by decide), hu9, si_eq]
    · rw [hu10, si_eq]
  | succ n ih =>
    intro f v0 hJ hv hQ Z hZ
    obtain ⟨f', ⟨fo, F, c, s, b, P, h1c, hs, hlt, hb, hf'⟩, hJ'⟩ := hJ
    have hR : Rg w h (v0.2 2) = Rg w h f := Rg_congr hv
    refine m_makePieces M (fo := fo) (by rw [hR]; exact P.1) ?_
    intro v1 f1 C1
    refine m_smallest M P C1 hle hs ?_
    rw [if_pos ⟨h1c, hlt⟩]
    have hFs := Enu_F P.2.1 hs.1
    have hFb := Enu_F P.2.1 hb.1
    refine hZ _ _ ?_
    unfold lp_Model_part_72
    refine b_f (nI_pos (by omega)) ?_
    refine m_join M P C1 hs.1 hb ?_
    intro v2 f2 h22
    refine ih f' v2 hJ' (fun k hk => ?_) ?_ _ (fun _ _ h => h)
    · rw [h22 k hk, f1.1 2 (by decide), hf' k hk, hv _ hFb.1, hv k hk]
    · intro v3 f3
      exact hQ v3 (fr_trans (fr_mono f1 (by decide) (by decide)) (fr_trans (fr_mono f2 (by decide) (by decide)) f3))
theorem m_part (M : MI w h K G) {le n : Nat} (hle1 : 1 ≤ le) (hle : le ≤ 400) {Q : Int32 → pS → Prop} {f0 g : Nat → Int32} {fg : Nat → Nat} (hg : IsFo (Rg w h g) (w * h) fg) (hJ : JRun w h le n f0 g) {v0 : pS} (h0 : ∀ k, k < w * h → ∃ b, f0 k = nI b ∧ amz (mds v0 k) K b)
    (hQ : ∀ v, fr [2, 3, 4, 5, 6] [0, 1, 2, 4] v0 v → (∀ k, k < w * h → v.2 2 k = g k) → v.1 0 = 0 → v.1 2 = 1 → v.1 4 = 0 → MPw (w * h) fg v → Q (v.1 1) v) : wp_Model_part G (nI le) v0 Q := by
  have B := mB M
  unfold wp_Model_part
  refine b_f (by rw [li_1]; exact nI_nlt hle1 (by omega)) (b_f (by rw [li_400]; exact nI_nlt hle (by omega)) ?_)
  intro u22 hu22
  refine b_t (by rw [hu22, si_eq]; decide) ?_
  have hf22 : fr [] [0] v0 u22 := by rw [hu22]; exact fr_si _ (by decide) (fr_refl _ _ _)
  have emd : ∀ (v : pS), fr [2] [0] v0 v → ∀ k, mds v k = mds v0 k := by
    intro v hf k
    funext j
    unfold mds
    rw [hf.1 0 (by decide), hf.1 1 (by decide)]
  suffices hl : ∀ (d k : Nat) (v : pS), k + d = w * h → fr [2] [] u22 v → (∀ j, j < k → v.2 2 j = f0 j) → lp_Model_part_32 G Q (d + 1) (nI le) (nI k) v from
    ⟨w * h + 1, by rw [li_0]; exact hl (w * h) 0 u22 (by omega) (fr_refl _ _ _) (fun j hj => absurd hj (Nat.not_lt_zero j))⟩
  intro d
  induction d with
  | zero =>
    intro k v hd hfr h2
    unfold lp_Model_part_32
    refine b_t (by rw [mp_0 M, mp_1 M, nI_mul]; exact nI_le (by omega) (by omega)) ?_
    have hr := m_run M hle hg (Q := Q) n f0 v hJ (fun j hj => h2 j (by omega)) (fun v' f' a1 a2 a3 a4 => hQ v' (fr_trans (fr_mono hf22 (by decide) (by decide)) (fr_trans (fr_mono hfr (by decide) (by decide)) (fr_mono f' (by decide) (by decide)))) a1 (by rw [f'.2 0 (by decide), hfr.2 0 (by decide), hu22, si_eq]) a2 a3 a4) (fun r v => ∃ n1, lp_Model_part_72 G Q n1 (nI le) r v) (fun r v h => ⟨_, h⟩)
    exact hr
  | succ d ih =>
    intro k v hd hfr h2
    have hk : k < w * h := by omega
    unfold lp_Model_part_32
    refine b_f (by rw [mp_0 M, mp_1 M, nI_mul]; exact nI_ge (by omega) (by omega)) ?_
    refine m_nearest M hk ?_
    intro b hb
    refine ⟨by rw [ml_3 M]; exact vp_in_nI (by omega) (by omega), ?_⟩
    rw [nI_clamp (n := k) (by omega)]
    intro u17 hu17 t ht
    rw [ht, nI_1, hu17]
    refine ih (k + 1) _ (by omega) (fr_sa _ (by decide) hfr) (fun j hj => ?_)
    rw [sa_eq]
    by_cases e : j = k
    · rw [e, upd_eq]
      obtain ⟨b', hb1, hb2⟩ := h0 k hk
      rw [emd v (fr_trans (fr_mono hf22 (by decide) (by decide)) (fr_mono hfr (by decide) (by decide)))] at hb
      rw [hb1, amz_u hb hb2]
    · rw [upd_ne _ _ e]; exact h2 j (by omega)
end
