/-! OWN ROWS: the class joins its smallest pieces. -/
theorem CP_at {w N c p : Nat} {fo F : Nat → Nat} {u : pS} (C : CPw w N fo u) (E : Enu fo N c F) (hp : p < c) : PcR w N fo u (F p) p := by
  have h1 := Enu_F E hp
  have h2 := C.2.2 (F p) h1.1 h1.2.1
  rw [h1.2.2] at h2
  exact h2
theorem nm_eq {R : Nat → Nat → Prop} {fo F : Nat → Nat} {N c k p : Nat} (hf : IsFo R N fo) (E : Enu fo N c F) (hk : k < N) (hp : p < c) : cnt (fx fo) (fo k) = p ↔ fo k = F p := by
  have h1 := Enu_num hf E hk
  constructor
  · intro e; rw [← h1.2, e]
  · intro e; exact Enu_inj E h1.1 hp (by rw [h1.2, e])
theorem Enu_cN {fo F : Nat → Nat} {N c : Nat} (E : Enu fo N c F) : c ≤ N := by rw [E.1]; exact cnt_le _ _
theorem PS_c {w h : Nat} {f : Nat → Int32} {fo F : Nat → Nat} {c : Nat} (P : PS w h f fo F c) : c ≤ w * h := Enu_cN P.2.1
theorem sz_le (fo : Nat → Nat) (N k : Nat) : sz fo N k ≤ N := cnt_le _ _
theorem amin_1 (g : Nat → Nat) : amin g 1 0 := ⟨by omega, fun p hp => by rw [show p = 0 by omega]; exact Nat.le_refl _, fun p hp => absurd hp (Nat.not_lt_zero p)⟩
theorem amax_1 (g : Nat → Nat) : amax g 1 0 := ⟨by omega, fun p hp => by rw [show p = 0 by omega]; exact Nat.le_refl _, fun p hp => absurd hp (Nat.not_lt_zero p)⟩
section
variable {w h K : Nat} {G : pG}
theorem k_smallest (H : GI w h K G) {f : Nat → Int32} {u : pS} {fo F : Nat → Nat} {c : Nat} (P : PS w h f fo F c) (C : CPw w (w * h) fo u) {Q : Int32 → pS → Prop} (hQ : ∀ b, amin (fun p => sz fo (w * h) (F p)) c b → Q (nI b) u) : wp_Pieces_smallest G u Q := by
  have B := gB H
  have hcN := PS_c P
  have hc2 : u.1 2 = nI c := by rw [C.2.1, P.2.1.1]
  have h11 : ∀ p, p < c → u.2 11 p = nI (sz fo (w * h) (F p)) := fun p hp => (CP_at C P.2.1 hp).2.1
  have hsz := sz_le fo (w * h)
  unfold wp_Pieces_smallest
  suffices hs : ∀ (d p b : Nat), p + d = c → amin (fun p => sz fo (w * h) (F p)) p b → lp_Pieces_smallest_4 G Q (d + 1) (nI b) (nI p) u by
    obtain ⟨d, hd⟩ : ∃ d, 1 + d = c := ⟨c - 1, by have := P.2.2; omega⟩
    exact ⟨d + 1, by rw [li_0, li_1]; exact hs d 1 0 hd (amin_1 _)⟩
  intro d
  induction d with
  | zero =>
    intro p b hd hm
    unfold lp_Pieces_smallest_4
    have e : p = c := by omega
    exact b_t (by rw [hc2]; exact nI_le (by omega) (by omega)) (hQ b (by rw [← e]; exact hm))
  | succ d ih =>
    intro p b hd hm
    have hb := hm.1
    have s1 := hsz (F p)
    have s2 := hsz (F b)
    unfold lp_Pieces_smallest_4
    rw [hc2, nI_clamp (n := p) (by omega), nI_clamp (n := b) (by omega), h11 p (by omega), h11 b (by omega), gl_25 H]
    simp only [forall_eq, nI_1]
    refine b_f (nI_ge (by omega) (by omega)) ⟨vp_in_nI (by omega) (by omega), vp_in_nI (by omega) (by omega), ?_⟩
    by_cases e : sz fo (w * h) (F b) ≤ sz fo (w * h) (F p)
    · refine b_t (nI_le e (by omega)) (ih (p + 1) b (by omega) ⟨by omega, fun q hq => ?_, hm.2.2⟩)
      by_cases e2 : q = p
      · rw [e2]; exact e
      · exact hm.2.1 q (by omega)
    · refine b_f (nI_ge (by omega) (by omega)) (ih (p + 1) p (by omega) ⟨by omega, fun q hq => ?_, fun q hq => ?_⟩)
      · by_cases e2 : q = p
        · rw [e2]; exact Nat.le_refl _
        · have : sz fo (w * h) (F b) ≤ sz fo (w * h) (F q) := hm.2.1 q (by omega)
          show sz fo (w * h) (F p) ≤ sz fo (w * h) (F q)
          omega
      · have : sz fo (w * h) (F b) ≤ sz fo (w * h) (F q) := hm.2.1 q (by omega)
        show sz fo (w * h) (F p) < sz fo (w * h) (F q)
        omega
theorem k_csAt (H : GI w h K G) {f : Nat → Int32} {u0 : pS} {fo F : Nat → Nat} {c p k : Nat} (P : PS w h f fo F c) (C : CPw w (w * h) fo u0) (hp : p < c) (hk : k < w * h) (hkp : fo k = F p) {Q : pS → Prop}
    (hQ : ∀ u, fr [9] [] u0 u → (∀ q, q < c → u.2 9 q = nI (cnt (sd w h fo (F p) (F q)) (4 * k + 4))) → Q u) (h9 : ∀ q, q < c → u0.2 9 q = nI (cnt (sd w h fo (F p) (F q)) (4 * k))) : wp_Pieces_countSidesAt G (nI k) u0 Q := by
  have B := gB H
  have hcN := PS_c P
  unfold wp_Pieces_countSidesAt
  suffices hs : ∀ (d s : Nat) (u : pS), s + d = 4 → fr [9] [] u0 u → (∀ q, q < c → u.2 9 q = nI (cnt (sd w h fo (F p) (F q)) (4 * k + s))) → lp_Pieces_countSidesAt_2 G Q (d + 1) (nI k) (nI s) u from
    ⟨4 + 1, by rw [li_0]; exact hs 4 0 u0 (by omega) (fr_refl _ _ _) h9⟩
  intro d
  induction d with
  | zero =>
    intro s u hd hfr h9
    have e : s = 4 := by omega
    unfold lp_Pieces_countSidesAt_2
    exact b_t (by rw [e, li_4]; exact nI_le (by omega) (by omega)) (hQ u hfr (by rw [e] at h9; exact h9))
  | succ d ih =>
    intro s u hd hfr h9
    have h7 : u.2 7 = u0.2 7 := hfr.1 7 (by decide)
    unfold lp_Pieces_countSidesAt_2
    rw [bf (by rw [li_4]; exact nI_ge (by omega) (by omega)), e_bes H hk (by omega)]
    simp only [forall_eq, nI_1, gl_21 H, gl_23 H]
    rw [h7, nI_clamp (n := k) (by omega), C.1 k hk]
    have hnk := Enu_num P.1 P.2.1 hk
    rcases bs_cases hk (show s < 4 by omega) with hb | ⟨j, hj, hb, _⟩
    · rw [hb, ← lz_m1]
      refine b_t rfl (ih (s + 1) u (by omega) hfr (fun q hq => ?_))
      rw [h9 q hq, ← Nat.add_assoc, cnt_s, sd_at (by omega), hb]
      simp
    · have hnj := Enu_num P.1 P.2.1 hj
      rw [hb, ← nI_z, nI_clamp (n := j) (by omega), C.1 j hj, nI_clamp (n := cnt (fx fo) (fo j)) (by omega)]
      refine b_f (nI_nm1 (by omega)) ⟨vp_in_nI hj (by omega), vp_in_nI hk (by omega), ?_⟩
      have hsd : ∀ q, sd w h fo (F p) (F q) (4 * k + s) = (!(fo j == F p) && (fo j == F q)) := by
        intro q
        rw [sd_at (by omega), hb, Int.toNat_natCast, hkp]
        simp
      by_cases e : fo j = F p
      · rw [bt (by rw [e, hkp])]
        refine ih (s + 1) u (by omega) hfr (fun q hq => ?_)
        rw [h9 q hq, ← Nat.add_assoc, cnt_s, hsd q, e]
        simp
      · rw [bf (fun q => e (by
          have := (nI_eq (by omega) (by omega)).mp q
          rw [← hnj.2, this, hnk.2, hkp]))]
        refine ⟨vp_in_nI hj (by omega), vp_in_nI (by omega) (by omega), vp_in_nI (by omega) (by omega), ?_⟩
        refine ih (s + 1) _ (by omega) (fr_sa _ (by decide) hfr) (fun q hq => ?_)
        rw [sa_eq, ← Nat.add_assoc, cnt_s, hsd q]
        have en : (!(fo j == F p)) = true := by simp [e]
        rw [en, Bool.true_and]
        by_cases e2 : q = cnt (fx fo) (fo j)
        · rw [e2, upd_eq, h9 _ hnj.1, hnj.2, nI_1]
          simp
        · rw [upd_ne _ _ e2, h9 q hq]
          have : (fo j == F q) = false := beq_eq_false_iff_ne.mpr (fun q3 => e2 ((nm_eq P.1 P.2.1 hj hq).mpr q3).symm)
          rw [this]; simp
theorem k_countSidesOf (H : GI w h K G) {f : Nat → Int32} {u0 : pS} {fo F : Nat → Nat} {c p : Nat} (P : PS w h f fo F c) (C : CPw w (w * h) fo u0) (hp : p < c) {Q : pS → Prop}
    (hQ : ∀ u, fr [9] [] u0 u → (∀ q, q < c → u.2 9 q = nI (sh w h fo (F p) (F q))) → Q u) : wp_Pieces_countSidesOf G (nI p) u0 Q := by
  have B := gB H
  have hcN := PS_c P
  unfold wp_Pieces_countSidesOf
  refine k_fill9 H ?_
  intro u1 f1 z1
  suffices hs : ∀ (d k : Nat) (u : pS), k + d = w * h → fr [9] [] u0 u → (∀ q, q < c → u.2 9 q = nI (cnt (sd w h fo (F p) (F q)) (4 * k))) → lp_Pieces_countSidesOf_10 G Q (d + 1) (nI p) (nI k) u from
    ⟨w * h + 1, by rw [li_0]; exact hs (w * h) 0 u1 (by omega) f1 (fun q hq => by rw [z1 q (by omega)]; exact li_0)⟩
  intro d
  induction d with
  | zero =>
    intro k u hd hfr h9
    have e : k = w * h := by omega
    unfold lp_Pieces_countSidesOf_10
    exact b_t (by rw [gp_3 H]; exact nI_le (by omega) (by omega)) (hQ u hfr (by rw [e] at h9; exact h9))
  | succ d ih =>
    intro k u hd hfr h9
    have hk : k < w * h := by omega
    have C' : CPw w (w * h) fo u := CPw_fr C hfr
    have hnk := Enu_num P.1 P.2.1 hk
    unfold lp_Pieces_countSidesOf_10
    rw [gp_3 H, gl_21 H, nI_clamp (n := k) (by omega), C'.1 k hk]
    simp only [forall_eq, nI_1]
    refine b_f (nI_ge (by omega) (by omega)) ⟨vp_in_nI hk (by omega), ?_⟩
    by_cases e : fo k = F p
    · rw [bt (by rw [(nm_eq P.1 P.2.1 hk hp).mpr e])]
      refine k_csAt H P C' hp hk e ?_ h9
      intro u5 f5 h95
      exact ih (k + 1) u5 (by omega) (fr_trans hfr f5) (fun q hq => by rw [h95 q hq]; rfl)
    · rw [bf (fun q => e ((nm_eq P.1 P.2.1 hk hp).mp ((nI_eq (by omega) (by omega)).mp q)))]
      refine ih (k + 1) u (by omega) hfr (fun q hq => ?_)
      rw [h9 q hq, cnt_skip (n := 4 * k) (m := 4 * (k + 1)) (by omega)]
      intro i h1 h2
      have : i / 4 = k := by omega
      unfold sd
      rw [this]
      simp [e]
theorem sh_le (w h : Nat) (fo : Nat → Nat) (a b : Nat) : sh w h fo a b ≤ 4 * (w * h) := cnt_le _ _
theorem k_closest (H : GI w h K G) {f : Nat → Int32} {u0 : pS} {fo F : Nat → Nat} {c p : Nat} (P : PS w h f fo F c) (C : CPw w (w * h) fo u0) (hp : p < c) {Q : Int32 → pS → Prop}
    (hQ : ∀ u b, fr [9] [] u0 u → amax (fun q => sh w h fo (F p) (F q)) c b → Q (nI b) u) : wp_Pieces_closestTo G (nI p) u0 Q := by
  have B := gB H
  have hcN := PS_c P
  unfold wp_Pieces_closestTo
  refine k_countSidesOf H P C hp ?_
  intro u f1 h9
  have hc2 : u.1 2 = nI c := by rw [f1.2 2 (by decide), C.2.1, P.2.1.1]
  have hsh := sh_le w h fo (F p)
  suffices hs : ∀ (d q b : Nat), q + d = c → amax (fun q => sh w h fo (F p) (F q)) q b → lp_Pieces_closestTo_9 G Q (d + 1) (nI b) (nI q) u by
    obtain ⟨d, hd⟩ : ∃ d, 1 + d = c := ⟨c - 1, by have := P.2.2; omega⟩
    exact ⟨d + 1, by rw [li_0, li_1]; exact hs d 1 0 hd (amax_1 _)⟩
  intro d
  induction d with
  | zero =>
    intro q b hd hm
    unfold lp_Pieces_closestTo_9
    have e : q = c := by omega
    exact b_t (by rw [hc2]; exact nI_le (by omega) (by omega)) (hQ u b f1 (by rw [← e]; exact hm))
  | succ d ih =>
    intro q b hd hm
    have hb := hm.1
    have s1 := hsh (F q)
    have s2 := hsh (F b)
    unfold lp_Pieces_closestTo_9
    rw [hc2, nI_clamp (n := q) (by omega), nI_clamp (n := b) (by omega), h9 q (by omega), h9 b (by omega), gl_23 H]
    simp only [forall_eq, nI_1]
    refine b_f (nI_ge (by omega) (by omega)) ⟨vp_in_nI (by omega) (by omega), vp_in_nI (by omega) (by omega), ?_⟩
    by_cases e : sh w h fo (F p) (F q) ≤ sh w h fo (F p) (F b)
    · refine b_t (nI_le e (by omega)) (ih (q + 1) b (by omega) ⟨by omega, fun q' hq => ?_, hm.2.2⟩)
      by_cases e2 : q' = q
      · rw [e2]; exact e
      · exact hm.2.1 q' (by omega)
    · refine b_f (nI_ge (by omega) (by omega)) (ih (q + 1) q (by omega) ⟨by omega, fun q' hq => ?_, fun q' hq => ?_⟩)
      · by_cases e2 : q' = q
        · rw [e2]; exact Nat.le_refl _
        · have : sh w h fo (F p) (F q') ≤ sh w h fo (F p) (F b) := hm.2.1 q' (by omega)
          show sh w h fo (F p) (F q') ≤ sh w h fo (F p) (F q)
          omega
      · have : sh w h fo (F p) (F q') ≤ sh w h fo (F p) (F b) := hm.2.1 q' (by omega)
        show sh w h fo (F p) (F q') < sh w h fo (F p) (F q)
        omega
theorem k_woodOf (H : GI w h K G) {f : Nat → Int32} {u : pS} {fo F : Nat → Nat} {c p : Nat} (P : PS w h f fo F c) (C : CPw w (w * h) fo u) (hp : p < c) {Q : Int32 → pS → Prop} : wp_Pieces_woodOf G (nI p) u Q ↔ Q (u.2 6 (F p)) u := by
  have B := gB H
  have hcN := PS_c P
  have hF := Enu_F P.2.1 hp
  unfold wp_Pieces_woodOf
  rw [gl_24 H, gl_20 H, nI_clamp (n := p) (by omega), (CP_at C P.2.1 hp).1, nI_clamp (n := F p) (by omega), and_iff_right (vp_in_nI (by omega) (by omega)), and_iff_right (vp_in_nI hF.1 (by omega))]
theorem k_joinSmallest (H : GI w h K G) {u0 : pS} {fo F : Nat → Nat} {c le : Nat} (P : PS w h (u0.2 6) fo F c) (C : CPw w (w * h) fo u0) (hle : le ≤ 400) {Q : Int32 → pS → Prop}
    (hQ0 : ∀ s, amin (fun p => sz fo (w * h) (F p)) c s → ¬ (1 < c ∧ sz fo (w * h) (F s) < le) → Q 0 u0)
    (hQ1 : ∀ u s b, 1 < c → amin (fun p => sz fo (w * h) (F p)) c s → sz fo (w * h) (F s) < le → amax (fun p => sh w h fo (F s) (F p)) c b → fr [6, 9] [] u0 u → (∀ k, k < w * h → u.2 6 k = if fo k = F s then u0.2 6 (F b) else u0.2 6 k) → Q 1 u) : wp_Pieces_joinSmallest G (nI le) u0 Q := by
  have B := gB H
  have hcN := PS_c P
  have hc2 : u0.1 2 = nI c := by rw [C.2.1, P.2.1.1]
  unfold wp_Pieces_joinSmallest
  refine k_smallest H P C ?_
  intro s hs
  have hss := hs.1
  have hz := sz_le fo (w * h) (F s)
  rw [hc2, li_2, gl_25 H, nI_clamp (n := s) (by omega), (CP_at C P.2.1 hs.1).2.1]
  by_cases e1 : c < 2
  · exact b_t (nI_lt e1 (by omega)) (hQ0 s hs (by omega))
  · refine b_f (nI_nlt (by omega) (by omega)) ⟨vp_in_nI (by omega) (by omega), ?_⟩
    by_cases e2 : sz fo (w * h) (F s) < le
    · refine b_t (nI_lt e2 (by omega)) ?_
      refine k_closest H P C hs.1 ?_
      intro u5 b f5 hb
      have C5 : CPw w (w * h) fo u5 := CPw_fr C f5
      rw [k_woodOf H P C5 hb.1, f5.1 6 (by decide)]
      have h6 : u5.2 6 = u0.2 6 := f5.1 6 (by decide)
      have hFb := Enu_F P.2.1 hb.1
      suffices hl : ∀ (d k : Nat) (u : pS), k + d = w * h → fr [6, 9] [] u0 u → (∀ j, j < w * h → u.2 6 j = if j < k ∧ fo j = F s then u0.2 6 (F b) else u0.2 6 j) → lp_Pieces_joinSmallest_38 G Q (d + 1) (nI s) (u0.2 6 (F b)) (nI k) u from
        ⟨w * h + 1, by rw [li_0]; exact hl (w * h) 0 u5 (by omega) (fr_mono f5 (by decide) (by decide)) (fun j hj => by rw [if_neg (fun q => absurd q.1 (Nat.not_lt_zero j)), h6])⟩
      intro d
      induction d with
      | zero =>
        intro k u hd hfr h6u
        unfold lp_Pieces_joinSmallest_38
        refine b_t (by rw [gp_3 H]; exact nI_le (by omega) (by omega)) (hQ1 u s b (by omega) hs e2 hb hfr (fun j hj => ?_))
        rw [h6u j hj]
        by_cases e : fo j = F s
        · rw [if_pos ⟨by omega, e⟩, if_pos e]
        · rw [if_neg (fun q => e q.2), if_neg e]
      | succ d ih =>
        intro k u hd hfr h6u
        have hk : k < w * h := by omega
        have Cu : CPw w (w * h) fo u := CPw_fr C hfr
        have hnk := Enu_num P.1 P.2.1 hk
        unfold lp_Pieces_joinSmallest_38
        rw [gp_3 H, gl_21 H, gl_20 H, nI_clamp (n := k) (by omega), Cu.1 k hk]
        simp only [forall_eq, nI_1]
        refine b_f (nI_ge (by omega) (by omega)) ⟨vp_in_nI hk (by omega), ?_⟩
        by_cases e : fo k = F s
        · rw [bt (by rw [(nm_eq P.1 P.2.1 hk hs.1).mpr e])]
          refine ⟨vp_in_nI hk (by omega), ih (k + 1) _ (by omega) (fr_sa _ (by decide) hfr) (fun j hj => ?_)⟩
          rw [sa_eq]
          by_cases ej : j = k
          · rw [ej, upd_eq, if_pos ⟨by omega, e⟩]
          · rw [upd_ne _ _ ej, h6u j hj]
            by_cases e3 : j < k ∧ fo j = F s
            · rw [if_pos e3, if_pos ⟨by omega, e3.2⟩]
            · rw [if_neg e3, if_neg (fun q => e3 ⟨by omega, q.2⟩)]
        · rw [bf (fun q => e ((nm_eq P.1 P.2.1 hk hs.1).mp ((nI_eq (by omega) (by omega)).mp q)))]
          refine ih (k + 1) u (by omega) hfr (fun j hj => ?_)
          rw [h6u j hj]
          by_cases e3 : j < k ∧ fo j = F s
          · rw [if_pos e3, if_pos ⟨by omega, e3.2⟩]
          · rw [if_neg e3, if_neg (fun q => e3 ⟨by
              have : j ≠ k := fun q3 => e (by rw [← q3]; exact q.2)
              omega, q.2⟩)]
    · exact b_f (nI_nlt (a := sz fo (w * h) (F s)) (by omega) (by omega)) (hQ0 s hs (by omega))
theorem k_make43 (H : GI w h K G) {le : Nat} (hle : le ≤ 400) {Q : pS → Prop} {u0 : pS}
    (hQ : ∀ u n fo F c, fr [6, 7, 8, 9, 10, 11, 12, 13, 14] [2] u0 u → JRun w h le n (u0.2 6) (u.2 6) → PS w h (u.2 6) fo F c → CPw w (w * h) fo u → Q u) {fo F : Nat → Nat} {c : Nat} (P : PS w h (u0.2 6) fo F c) (C : CPw w (w * h) fo u0) : ∃ n, lp_Pieces_make_43 G Q n (nI le) 0 u0 := by
  have B := gB H
  suffices hs : ∀ (d r : Nat) (u : pS) (fo F : Nat → Nat) (c : Nat), r + d = w * h → c + r ≤ w * h → PS w h (u.2 6) fo F c → CPw w (w * h) fo u → fr [6, 7, 8, 9, 10, 11, 12, 13, 14] [2] u0 u → (∀ n g, JRun w h le n (u.2 6) g → ∃ n', JRun w h le n' (u0.2 6) g) → lp_Pieces_make_43 G Q (d + 1) (nI le) (nI r) u from
    ⟨w * h + 1, by rw [li_0]; exact hs (w * h) 0 u0 fo F c (by omega) (by have := PS_c P; omega) P C (fr_refl _ _ _) (fun n g hg => ⟨n, hg⟩)⟩
  intro d
  induction d with
  | zero =>
    intro r u fo F c hd hcr P C hfr hJ
    have := P.2.2; omega
  | succ d ih =>
    intro r u fo F c hd hcr P C hfr hJ
    unfold lp_Pieces_make_43
    refine b_f (by rw [gp_3 H]; exact nI_ge (by omega) (by omega)) ?_
    refine k_joinSmallest H P C hle ?_ ?_
    · intro s hs hno
      refine b_t rfl ?_
      obtain ⟨n', hn'⟩ := hJ 0 (u.2 6) ⟨fun _ _ => rfl, fo, F, c, s, P, hs, hno⟩
      exact hQ u n' fo F c hfr hn' P C
    · intro u4 s b h1c hs hlt hb f4 h64
      refine b_f (by decide) ?_
      obtain ⟨fo', F', c', P'⟩ := PS_ex B.2.2.2.2.2.2.1 (u4.2 6)
      have hst : JStep w h le (u.2 6) (u4.2 6) := ⟨fo, F, c, s, b, P, h1c, hs, hlt, hb, h64⟩
      refine k_gatherAll H P'.1 ?_
      intro u7 f7 C7
      intro t ht
      rw [ht, nI_1]
      have e6 : u7.2 6 = u4.2 6 := f7.1 6 (by decide)
      have hdec := jn_dec (le := le) P h1c hs.1 hb h64 P'.1
      refine ih (r + 1) u7 fo' F' c' (by omega) (by rw [P'.2.1.1]; omega) (by rw [e6]; exact P') C7 (fr_trans hfr (fr_trans (fr_mono f4 (by decide) (by decide)) (fr_mono f7 (by decide) (by decide)))) ?_
      intro n g hg
      rw [e6] at hg
      exact hJ (n + 1) g ⟨u4.2 6, hst, hg⟩
end
