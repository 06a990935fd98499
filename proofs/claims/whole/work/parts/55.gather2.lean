/-! OWN ROWS: the class gathers all pieces. -/
section
variable {w h K : Nat} {G : pG}
theorem ite_nlt {a b : Nat} (ha : a < 2147483648) (hb : b < 2147483648) : (if nI a < nI b then nI a else nI b) = nI (min a b) := by
  by_cases e : a < b
  · rw [if_pos ((nI_ltI (by omega) (by omega)).mpr e), Nat.min_eq_left (by omega)]
  · rw [if_neg (fun q => e ((nI_ltI (by omega) (by omega)).mp q)), Nat.min_eq_right (by omega)]
theorem ite_nmx {a b : Nat} (ha : a < 2147483648) (hb : b < 2147483648) : (if nI a < nI b then nI b else nI a) = nI (max a b) := by
  by_cases e : a < b
  · rw [if_pos ((nI_ltI (by omega) (by omega)).mpr e), Nat.max_eq_right (by omega)]
  · rw [if_neg (fun q => e ((nI_ltI (by omega) (by omega)).mp q)), Nat.max_eq_left (by omega)]
/-- what of the piece pc is noted, se of its places included -/
def gE (w N pc st : Nat) (u0 u : pS) (M : Nat → Bool) (q : Nat → Nat) (se : Nat) : Prop :=
  (u.2 10 pc = nI st ∧ u.2 11 pc = nI se) ∧ (∃ a, u.2 12 pc = nI a ∧ a < 400 ∧ (∃ j, j < N ∧ M j = true ∧ j % w = a) ∧ ∀ i, i < se → a ≤ q i % w) ∧ (∃ a, u.2 13 pc = nI a ∧ a < 400 ∧ (∃ j, j < N ∧ M j = true ∧ j % w = a) ∧ ∀ i, i < se → q i % w ≤ a) ∧ (∃ a, u.2 14 pc = nI a ∧ a < 400 ∧ (∃ j, j < N ∧ M j = true ∧ j / w = a) ∧ ∀ i, i < se → q i / w ≤ a) ∧ (∀ p, p ≠ pc → u.2 10 p = u0.2 10 p ∧ u.2 11 p = u0.2 11 p ∧ u.2 12 p = u0.2 12 p ∧ u.2 13 p = u0.2 13 p ∧ u.2 14 p = u0.2 14 p)
theorem k_g25 (H : GI w h K G) {u0 : pS} {fo : Nat → Nat} {f : Nat → Int32} (hfo : IsFo (Rg w h f) (w * h) fo) {st pc : Nat} (hst : st < w * h) (hfs : fo st = st) (hpc : pc < w * h)
    (h0 : ∀ k, k < w * h → u0.2 7 k = if fo k < st then nI (cnt (fx fo) (fo k)) else -1) (h6 : u0.2 6 = f) {Q : pS → Prop}
    (hQ : ∀ u, fr [7, 8, 10, 11, 12, 13, 14] [] u0 u → (∀ k, k < w * h → u.2 7 k = if fo k = st then nI pc else u0.2 7 k) → PcR w (w * h) fo u st pc → (∀ p, p ≠ pc → u.2 10 p = u0.2 10 p ∧ u.2 11 p = u0.2 11 p ∧ u.2 12 p = u0.2 12 p ∧ u.2 13 p = u0.2 13 p ∧ u.2 14 p = u0.2 14 p) → Q u) :
    ∀ (d se : Nat) (u : pS) (M : Nat → Bool) (q : Nat → Nat) (kn : Nat), se + d = w * h → se ≤ kn → fr [7, 8, 10, 11, 12, 13, 14] [] u0 u → gM u0 u (w * h) pc st fo M q kn → M st = true → gE w (w * h) pc st u0 u M q se → (∀ i j, i < se → Rg w h f (q i) j → M j = true) →
      lp_Pieces_gather_25 G Q (d + 1) (nI st) (nI pc) (nI kn) (nI se) u := by
  have B := gB H
  have fin : ∀ (se : Nat) (u : pS) (M : Nat → Bool) (q : Nat → Nat) (kn : Nat), se = kn → fr [7, 8, 10, 11, 12, 13, 14] [] u0 u → gM u0 u (w * h) pc st fo M q kn → M st = true → gE w (w * h) pc st u0 u M q se → (∀ i j, i < se → Rg w h f (q i) j → M j = true) → Q u := by
    intro se u M q kn e hfr hg hMs hE hcl
    have hM : ∀ k, k < w * h → (M k = true ↔ fo k = st) := by
      intro k hk
      refine ⟨fun hm => (hg.2.2.2 k hk hm).1, fun hf => ?_⟩
      have hc : Cn (Rg w h f) st k := fo_same Rg_symm hfo hst hk (by rw [hfs, hf])
      refine (hc (fun x => x < w * h ∧ M x = true) ⟨hst, hMs⟩ ?_).2
      intro x y ⟨hx, hmx⟩ hr
      obtain ⟨_, i, hi, hqi⟩ := hg.2.2.2 x hx hmx
      exact ⟨hr.2.1, hcl i y (by omega) (by rw [hqi]; exact hr)⟩
    have hMb : ∀ k, k < w * h → M k = (fo k == st) := by
      intro k hk
      rw [Bool.eq_iff_iff, beq_iff_eq]; exact hM k hk
    obtain ⟨⟨e10, e11⟩, ⟨a, ea, _, ⟨ja, ja1, ja2, ja3⟩, la⟩, ⟨b, eb, _, ⟨jb, jb1, jb2, jb3⟩, lb⟩, ⟨c, ec, _, ⟨jc, jc1, jc2, jc3⟩, lc⟩, hoth⟩ := hE
    have all : ∀ k, k < w * h ∧ fo k = st → ∃ i, i < se ∧ q i = k := by
      intro k ⟨hk, hf⟩
      obtain ⟨_, i, hi, hqi⟩ := hg.2.2.2 k hk ((hM k hk).mpr hf)
      exact ⟨i, by omega, hqi⟩
    refine hQ u hfr ?_ ⟨e10, ?_, ⟨a, ea, ⟨ja, ⟨ja1, (hM ja ja1).mp ja2⟩, ja3⟩, ?_⟩, ⟨b, eb, ⟨jb, ⟨jb1, (hM jb jb1).mp jb2⟩, jb3⟩, ?_⟩, ⟨c, ec, ⟨jc, ⟨jc1, (hM jc jc1).mp jc2⟩, jc3⟩, ?_⟩⟩ hoth
    · intro k hk
      rw [hg.1 k hk]
      by_cases e2 : fo k = st
      · rw [if_pos e2, if_pos ((hM k hk).mpr e2)]
      · rw [if_neg e2, if_neg (fun q => e2 ((hM k hk).mp q))]
    · rw [e11, e, hg.2.2.1, cnt_congr hMb]
    · intro k hk; obtain ⟨i, hi, rfl⟩ := all k hk; exact la i hi
    · intro k hk; obtain ⟨i, hi, rfl⟩ := all k hk; exact lb i hi
    · intro k hk; obtain ⟨i, hi, rfl⟩ := all k hk; exact lc i hi
  intro d
  induction d with
  | zero =>
    intro se u M q kn hd hle hfr hg hMs hE hcl
    have hkn : kn ≤ w * h := by rw [hg.2.2.1]; exact cnt_le M (w * h)
    unfold lp_Pieces_gather_25
    exact b_t (nI_le (by omega) (by omega)) (fin se u M q kn (by omega) hfr hg hMs hE hcl)
  | succ d ih =>
    intro se u M q kn hd hle hfr hg hMs hE hcl
    have hkn : kn ≤ w * h := by rw [hg.2.2.1]; exact cnt_le M (w * h)
    unfold lp_Pieces_gather_25
    by_cases hek : se = kn
    · exact b_t (nI_le (by omega) (by omega)) (fin se u M q kn hek hfr hg hMs hE hcl)
    · refine b_f (nI_ge (by omega) (by omega)) (b_f (by rw [gp_3 H]; exact nI_ge (by omega) (by omega)) ⟨by rw [gl_22 H]; exact vp_in_nI (by omega) (by omega), ?_⟩)
      intro t ht
      rw [nI_clamp (by omega)] at ht
      obtain ⟨hq1, hq2, hq3⟩ := hg.2.1 se (by omega)
      rw [hq1] at ht
      subst ht
      obtain ⟨⟨e10, e11⟩, ⟨a, ea, a4, ⟨ja, ja1, ja2, ja3⟩, la⟩, ⟨b, eb, b4, ⟨jb, jb1, jb2, jb3⟩, lb⟩, ⟨c, ec, c4, ⟨jc, jc1, jc2, jc3⟩, lc⟩, hoth⟩ := hE
      have hx := gr_x hq2
      have hy := gr_y hq2
      refine k_include H hq2 hpc ?_
      intro u' hfr' v11 v12 v13 v14
      rw [e11, nI_1] at v11
      rw [ea, ite_nlt (by omega) (by omega)] at v12
      rw [eb, ite_nmx (by omega) (by omega)] at v13
      rw [ec, ite_nmx (by omega) (by omega)] at v14
      have hg' : gM u0 u' (w * h) pc st fo M q kn := by
        unfold gM
        rw [hfr'.1 7 (by decide), hfr'.1 8 (by decide)]; exact hg
      refine ⟨4 + 1, k_g62 H hfo hst hfs hpc hq2 (hg.2.2.2 _ hq2 hq3).1 h0 (ub := u') ?_ (M0 := M) (q0 := q) (kn0 := kn) ?_ 4 0 u' M q kn rfl (fr_refl _ _ _) hg' (fun _ h => h) (fun _ _ => rfl) (Nat.le_refl _) (fun s' j hs' => absurd hs' (Nat.not_lt_zero s'))⟩
      · rw [hfr'.1 6 (by decide), hfr.1 6 (by decide), h6]
      · intro u2 M2 q2 kn2 hfr2 hg2 hMM hqq hkk hway
        have hnq : ∀ i, i < se + 1 → q2 i = q i := fun i hi => hqq i (by omega)
        refine ih (se + 1) u2 M2 q2 kn2 (by omega) (by omega) (fr_trans hfr (fr_trans (fr_mono hfr' (by decide) (by decide)) (fr_mono hfr2 (by decide) (by decide)))) hg2 (hMM _ hMs) ?_ ?_
        · unfold gE
          rw [hfr2.1 10 (by decide), hfr2.1 11 (by decide), hfr2.1 12 (by decide), hfr2.1 13 (by decide), hfr2.1 14 (by decide), v11, v12, v13, v14, hfr'.1 10 (by decide)]
          refine ⟨⟨e10, upd_eq _ _ _⟩, ⟨min (q se % w) a, upd_eq _ _ _, by omega, ?_, ?_⟩, ⟨max b (q se % w), upd_eq _ _ _, by omega, ?_, ?_⟩, ⟨max c (q se / w), upd_eq _ _ _, by omega, ?_, ?_⟩, ?_⟩
          · rcases Nat.le_total (q se % w) a with hh | hh
            · exact ⟨q se, hq2, hMM _ hq3, by rw [Nat.min_eq_left hh]⟩
            · exact ⟨ja, ja1, hMM _ ja2, by rw [Nat.min_eq_right hh, ja3]⟩
          · intro i hi
            rw [hnq i hi]
            by_cases e : i = se
            · rw [e]; exact Nat.min_le_left _ _
            · exact Nat.le_trans (Nat.min_le_right _ _) (la i (by omega))
          · rcases Nat.le_total (q se % w) b with hh | hh
            · exact ⟨jb, jb1, hMM _ jb2, by rw [Nat.max_eq_left hh, jb3]⟩
            · exact ⟨q se, hq2, hMM _ hq3, by rw [Nat.max_eq_right hh]⟩
          · intro i hi
            rw [hnq i hi]
            by_cases e : i = se
            · rw [e]; exact Nat.le_max_right _ _
            · exact Nat.le_trans (lb i (by omega)) (Nat.le_max_left _ _)
          · rcases Nat.le_total (q se / w) c with hh | hh
            · exact ⟨jc, jc1, hMM _ jc2, by rw [Nat.max_eq_left hh, jc3]⟩
            · exact ⟨q se, hq2, hMM _ hq3, by rw [Nat.max_eq_right hh]⟩
          · intro i hi
            rw [hnq i hi]
            by_cases e : i = se
            · rw [e]; exact Nat.le_max_right _ _
            · exact Nat.le_trans (lc i (by omega)) (Nat.le_max_left _ _)
          · intro p hp
            rw [upd_ne _ _ hp, upd_ne _ _ hp, upd_ne _ _ hp, upd_ne _ _ hp]
            exact hoth p hp
        · intro i j hi hr
          rw [hnq i hi] at hr
          by_cases e : i = se
          · rw [e] at hr
            obtain ⟨_, r2, r3, s, r4, r5⟩ := hr
            exact hway s j r4 r2 r5 r3.symm
          · exact hMM _ (hcl i j (by omega) hr)
theorem k_gather (H : GI w h K G) {u0 : pS} {fo : Nat → Nat} {f : Nat → Int32} (hfo : IsFo (Rg w h f) (w * h) fo) {st pc : Nat} (hst : st < w * h) (hfs : fo st = st) (hpc : pc < w * h)
    (h0 : ∀ k, k < w * h → u0.2 7 k = if fo k < st then nI (cnt (fx fo) (fo k)) else -1) (h6 : u0.2 6 = f) {Q : pS → Prop}
    (hQ : ∀ u, fr [7, 8, 10, 11, 12, 13, 14] [] u0 u → (∀ k, k < w * h → u.2 7 k = if fo k = st then nI pc else u0.2 7 k) → PcR w (w * h) fo u st pc → (∀ p, p ≠ pc → u.2 10 p = u0.2 10 p ∧ u.2 11 p = u0.2 11 p ∧ u.2 12 p = u0.2 12 p ∧ u.2 13 p = u0.2 13 p ∧ u.2 14 p = u0.2 14 p) → Q u) :
    wp_Pieces_gather G (nI st) (nI pc) u0 Q := by
  have B := gB H
  have hx := gr_x hst
  have hy := gr_y hst
  unfold wp_Pieces_gather
  refine k_begin H hst hpc ?_
  intro u1 f1 v10 v11 v12 v13 v14
  refine ⟨by rw [gl_21 H]; exact vp_in_nI hst (by omega), ?_⟩
  intro u2 hu2
  refine ⟨by rw [gl_22 H, li_0]; exact vp_in_nI (by omega) (by omega), ?_⟩
  intro u3 hu3
  rw [nI_clamp (by omega)] at hu2
  rw [li_0, nI_clamp (by omega)] at hu3
  have f3 : fr [7, 8, 10, 11, 12, 13, 14] [] u0 u3 := by
    rw [hu3, hu2]
    exact fr_sa _ (by decide) (fr_sa _ (by decide) (fr_mono f1 (by decide) (by decide)))
  have a7 : u3.2 7 = upd (u0.2 7) st (nI pc) := by
    rw [hu3, hu2]; simp (disch := decide) only [sa_eq, sa_ne]; rw [f1.1 7 (by decide)]
  have a8 : u3.2 8 0 = nI st := by
    rw [hu3, sa_eq, upd_eq]
  refine ⟨w * h + 1, ?_⟩
  rw [li_1, li_0]
  refine k_g25 H hfo hst hfs hpc h0 h6 hQ (w * h) 0 u3 (fun k => k == st) (fun _ => st) 1 (by omega) (by omega) f3 ⟨?_, ?_, ?_, ?_⟩ (by simp) ?_ (fun i j hi => absurd hi (Nat.not_lt_zero i))
  · intro k hk
    rw [a7]
    by_cases e : k = st
    · rw [e, upd_eq]; simp
    · rw [upd_ne _ _ e]; simp [e]
  · intro i hi
    have : i = 0 := by omega
    rw [this]
    exact ⟨a8, hst, by simp⟩
  · rw [cnt_upd (P := fun _ => false) (Q := fun k => k == st) hst rfl (by simp) (fun j _ hj => by simp [hj]), cnt_0 (fun _ _ => rfl)]
  · intro k hk hM
    have e : k = st := by simpa using hM
    exact ⟨by rw [e]; exact hfs, 0, by omega, e.symm⟩
  · unfold gE
    have b10 : u3.2 10 = upd (u0.2 10) pc (nI st) := by rw [hu3, hu2]; simp (disch := decide) only [sa_ne]; exact v10
    have b11 : u3.2 11 = upd (u0.2 11) pc (nI 0) := by rw [hu3, hu2]; simp (disch := decide) only [sa_ne]; exact v11
    have b12 : u3.2 12 = upd (u0.2 12) pc (nI (st % w)) := by rw [hu3, hu2]; simp (disch := decide) only [sa_ne]; exact v12
    have b13 : u3.2 13 = upd (u0.2 13) pc (nI (st % w)) := by rw [hu3, hu2]; simp (disch := decide) only [sa_ne]; exact v13
    have b14 : u3.2 14 = upd (u0.2 14) pc (nI (st / w)) := by rw [hu3, hu2]; simp (disch := decide) only [sa_ne]; exact v14
    rw [b10, b11, b12, b13, b14]
    refine ⟨⟨upd_eq _ _ _, upd_eq _ _ _⟩, ⟨_, upd_eq _ _ _, by omega, ⟨st, hst, by simp, rfl⟩, fun i hi => absurd hi (Nat.not_lt_zero i)⟩, ⟨_, upd_eq _ _ _, by omega, ⟨st, hst, by simp, rfl⟩, fun i hi => absurd hi (Nat.not_lt_zero i)⟩, ⟨_, upd_eq _ _ _, by omega, ⟨st, hst, by simp, rfl⟩, fun i hi => absurd hi (Nat.not_lt_zero i)⟩, ?_⟩
    intro p hp
    rw [upd_ne _ _ hp, upd_ne _ _ hp, upd_ne _ _ hp, upd_ne _ _ hp, upd_ne _ _ hp]
    exact ⟨rfl, rfl, rfl, rfl, rfl⟩
end
