/-! OWN ROWS: the three rankings of the class. -/
section
variable {w h K : Nat} {G : pG}
theorem k_rk18_brightest (H : GI w h K G) {n m : Nat} (hn : n ≤ K) (hm : m < n) {lt : Nat → Nat → Bool} {u0 : pS} {row : Nat → Nat} (hr : ∀ j, j < m → row j < m)
    (hc : ∀ (u : pS) (a b : Nat) (Q : Int32 → pS → Prop), fr [15] [] u0 u → a < n → b < n → (∀ r : Int32, (0 ≤ r ↔ lt a b = false) → Q r u) → wp_Brightest_compare G (nI a) (nI b) u Q) {Q : pS → Prop} {k2 : Int32 → Int32 → pS → Prop}
    (hk : ∀ (s : Nat) (u : pS), s ≤ m → (∀ j, s ≤ j → j < m → lt m (row j) = true) → (s = 0 ∨ lt m (row (s - 1)) = false) → fr [15] [] u0 u → (∀ j, j < m + 1 → u.2 15 j = nI (ins row s m j)) → k2 (nI n) (nI (m + 1)) u) :
    ∀ (s : Nat) (u : pS), s ≤ m → (∀ j, s ≤ j → j < m → lt m (row j) = true) → fr [15] [] u0 u → (∀ j, j < s → u.2 15 j = nI (row j)) → (∀ j, s ≤ j → j < m → u.2 15 (j + 1) = nI (row j)) → lp_Ranking_rank_brightest_18 G Q k2 (s + 1) (nI n) (nI m) (nI s) u := by
  have B := gB H
  have put : ∀ (s : Nat) (u : pS), s ≤ m → (∀ j, j < s → u.2 15 j = nI (row j)) → (∀ j, s ≤ j → j < m → u.2 15 (j + 1) = nI (row j)) → ∀ j, j < m + 1 → (pw_sa u 15 (upd (u.2 15) s (nI m))).2 15 j = nI (ins row s m j) := by
    intro s u hs a1 a2 j hj
    rw [sa_eq]
    unfold ins
    by_cases e1 : j < s
    · rw [upd_ne _ _ (by omega), if_pos e1]; exact a1 j e1
    · rw [if_neg e1]
      by_cases e2 : j = s
      · rw [if_pos e2, e2, upd_eq]
      · rw [if_neg e2, upd_ne _ _ e2]
        have := a2 (j - 1) (by omega) (by omega)
        rw [show j - 1 + 1 = j by omega] at this
        exact this
  intro s
  induction s with
  | zero =>
    intro u hs h1 hfr a1 a2
    unfold lp_Ranking_rank_brightest_18
    refine b_t (by decide) ⟨by rw [gl_29 H]; exact vp_in_nI (by omega) (by omega), ?_⟩
    intro u4 hu4 t ht
    rw [nI_clamp (n := 0) (by omega)] at hu4
    rw [ht, nI_1, hu4]
    exact hk 0 _ hs h1 (Or.inl rfl) (fr_sa _ (by decide) hfr) (put 0 u hs a1 a2)
  | succ s ih =>
    intro u hs h1 hfr a1 a2
    have hrs := hr s (by omega)
    unfold lp_Ranking_rank_brightest_18
    rw [nI_pred, nI_clamp (n := s) (by omega), nI_clamp (n := s + 1) (by omega), a1 s (by omega), gl_29 H]
    refine b_f (nI_nle (by omega) (by omega)) ⟨vp_in_nI (by omega) (by omega), ?_⟩
    refine hc u m (row s) _ hfr hm (by omega) ?_
    intro r hrr
    rw [a1 s (by omega)]
    simp only [forall_eq]
    rw [nI_1, nI_dec]
    by_cases e : lt m (row s) = false
    · rw [bt (hrr.mpr e)]
      exact ⟨vp_in_nI (by omega) (by omega), hk (s + 1) _ hs h1 (Or.inr e) (fr_sa _ (by decide) hfr) (put (s + 1) u hs a1 a2)⟩
    · rw [bf (fun q => e (hrr.mp q))]
      refine ⟨vp_in_nI (by omega) (by omega), vp_in_nI (by omega) (by omega), ih _ (by omega) (fun j h3 h4 => ?_) (fr_sa _ (by decide) hfr) (fun j hj => ?_) (fun j h3 h4 => ?_)⟩
      · by_cases e2 : j = s
        · rw [e2]; simpa using e
        · exact h1 j (by omega) h4
      · rw [sa_eq, upd_ne _ _ (by omega)]; exact a1 j (by omega)
      · rw [sa_eq]
        by_cases e2 : j = s
        · rw [e2, upd_eq]
        · rw [upd_ne _ _ (by omega)]; exact a2 j (by omega) h4
theorem k_rank_brightest (H : GI w h K G) {n : Nat} (hn : n ≤ K) {lt : Nat → Nat → Bool} (hO : Ord (bef lt) n) {u0 : pS}
    (hc : ∀ (u : pS) (a b : Nat) (Q : Int32 → pS → Prop), fr [15] [] u0 u → a < n → b < n → (∀ r : Int32, (0 ≤ r ↔ lt a b = false) → Q r u) → wp_Brightest_compare G (nI a) (nI b) u Q) {Q : pS → Prop}
    (hQ : ∀ (u : pS) (row : Nat → Nat), fr [15] [] u0 u → Rk (bef lt) n row → (∀ j, j < n → u.2 15 j = nI (row j)) → Q u) : wp_Ranking_rank_brightest G (nI n) u0 Q := by
  have B := gB H
  unfold wp_Ranking_rank_brightest
  suffices hs : ∀ (d m : Nat) (u : pS) (row : Nat → Nat), m + d = n → fr [15] [] u0 u → Rk (bef lt) m row → (∀ j, j < m → u.2 15 j = nI (row j)) → lp_Ranking_rank_brightest_2 G Q (d + 1) (nI n) (nI m) u from
    ⟨n + 1, by rw [li_0]; exact hs n 0 u0 (fun j => j) (by omega) (fr_refl _ _ _) (Rk_0 _ _) (fun j hj => absurd hj (Nat.not_lt_zero j))⟩
  intro d
  induction d with
  | zero =>
    intro m u row hd hfr R ha
    have e : m = n := by omega
    unfold lp_Ranking_rank_brightest_2
    exact b_t (nI_le (by omega) (by omega)) (hQ u row hfr (by rw [← e]; exact R) (by rw [← e]; exact ha))
  | succ d ih =>
    intro m u row hd hfr R ha
    unfold lp_Ranking_rank_brightest_2
    refine b_f (nI_ge (by omega) (by omega)) (b_f (by rw [gl_29 H]; exact nI_ge (by omega) (by omega)) ⟨m + 1, ?_⟩)
    refine k_rk18_brightest H hn (show m < n by omega) (lt := lt) (row := row) R.1 (fun u a b Q hf => hc u a b Q (fr_trans hfr hf)) (u0 := u) ?_ m u (Nat.le_refl _) (fun j h3 h4 => by omega) (fr_refl _ _ _) ha (fun j h3 h4 => by omega)
    intro s u2 hs h1 h2 f2 a2
    exact ih (m + 1) u2 (ins row s m) (by omega) (fr_trans hfr f2) (Rk_ins hO (by omega) R hs h1 h2) a2

theorem k_rk18_laying (H : GI w h K G) {n m : Nat} (hn : n ≤ w * h) (hm : m < n) {lt : Nat → Nat → Bool} {u0 : pS} {row : Nat → Nat} (hr : ∀ j, j < m → row j < m)
    (hc : ∀ (u : pS) (a b : Nat) (Q : Int32 → pS → Prop), fr [16] [] u0 u → a < n → b < n → (∀ r : Int32, (0 ≤ r ↔ lt a b = false) → Q r u) → wp_Laying_compare G (nI a) (nI b) u Q) {Q : pS → Prop} {k2 : Int32 → Int32 → pS → Prop}
    (hk : ∀ (s : Nat) (u : pS), s ≤ m → (∀ j, s ≤ j → j < m → lt m (row j) = true) → (s = 0 ∨ lt m (row (s - 1)) = false) → fr [16] [] u0 u → (∀ j, j < m + 1 → u.2 16 j = nI (ins row s m j)) → k2 (nI n) (nI (m + 1)) u) :
    ∀ (s : Nat) (u : pS), s ≤ m → (∀ j, s ≤ j → j < m → lt m (row j) = true) → fr [16] [] u0 u → (∀ j, j < s → u.2 16 j = nI (row j)) → (∀ j, s ≤ j → j < m → u.2 16 (j + 1) = nI (row j)) → lp_Ranking_rank_laying_18 G Q k2 (s + 1) (nI n) (nI m) (nI s) u := by
  have B := gB H
  have put : ∀ (s : Nat) (u : pS), s ≤ m → (∀ j, j < s → u.2 16 j = nI (row j)) → (∀ j, s ≤ j → j < m → u.2 16 (j + 1) = nI (row j)) → ∀ j, j < m + 1 → (pw_sa u 16 (upd (u.2 16) s (nI m))).2 16 j = nI (ins row s m j) := by
    intro s u hs a1 a2 j hj
    rw [sa_eq]
    unfold ins
    by_cases e1 : j < s
    · rw [upd_ne _ _ (by omega), if_pos e1]; exact a1 j e1
    · rw [if_neg e1]
      by_cases e2 : j = s
      · rw [if_pos e2, e2, upd_eq]
      · rw [if_neg e2, upd_ne _ _ e2]
        have := a2 (j - 1) (by omega) (by omega)
        rw [show j - 1 + 1 = j by omega] at this
        exact this
  intro s
  induction s with
  | zero =>
    intro u hs h1 hfr a1 a2
    unfold lp_Ranking_rank_laying_18
    refine b_t (by decide) ⟨by rw [gl_30 H]; exact vp_in_nI (by omega) (by omega), ?_⟩
    intro u4 hu4 t ht
    rw [nI_clamp (n := 0) (by omega)] at hu4
    rw [ht, nI_1, hu4]
    exact hk 0 _ hs h1 (Or.inl rfl) (fr_sa _ (by decide) hfr) (put 0 u hs a1 a2)
  | succ s ih =>
    intro u hs h1 hfr a1 a2
    have hrs := hr s (by omega)
    unfold lp_Ranking_rank_laying_18
    rw [nI_pred, nI_clamp (n := s) (by omega), nI_clamp (n := s + 1) (by omega), a1 s (by omega), gl_30 H]
    refine b_f (nI_nle (by omega) (by omega)) ⟨vp_in_nI (by omega) (by omega), ?_⟩
    refine hc u m (row s) _ hfr hm (by omega) ?_
    intro r hrr
    rw [a1 s (by omega)]
    simp only [forall_eq]
    rw [nI_1, nI_dec]
    by_cases e : lt m (row s) = false
    · rw [bt (hrr.mpr e)]
      exact ⟨vp_in_nI (by omega) (by omega), hk (s + 1) _ hs h1 (Or.inr e) (fr_sa _ (by decide) hfr) (put (s + 1) u hs a1 a2)⟩
    · rw [bf (fun q => e (hrr.mp q))]
      refine ⟨vp_in_nI (by omega) (by omega), vp_in_nI (by omega) (by omega), ih _ (by omega) (fun j h3 h4 => ?_) (fr_sa _ (by decide) hfr) (fun j hj => ?_) (fun j h3 h4 => ?_)⟩
      · by_cases e2 : j = s
        · rw [e2]; simpa using e
        · exact h1 j (by omega) h4
      · rw [sa_eq, upd_ne _ _ (by omega)]; exact a1 j (by omega)
      · rw [sa_eq]
        by_cases e2 : j = s
        · rw [e2, upd_eq]
        · rw [upd_ne _ _ (by omega)]; exact a2 j (by omega) h4
theorem k_rank_laying (H : GI w h K G) {n : Nat} (hn : n ≤ w * h) {lt : Nat → Nat → Bool} (hO : Ord (bef lt) n) {u0 : pS}
    (hc : ∀ (u : pS) (a b : Nat) (Q : Int32 → pS → Prop), fr [16] [] u0 u → a < n → b < n → (∀ r : Int32, (0 ≤ r ↔ lt a b = false) → Q r u) → wp_Laying_compare G (nI a) (nI b) u Q) {Q : pS → Prop}
    (hQ : ∀ (u : pS) (row : Nat → Nat), fr [16] [] u0 u → Rk (bef lt) n row → (∀ j, j < n → u.2 16 j = nI (row j)) → Q u) : wp_Ranking_rank_laying G (nI n) u0 Q := by
  have B := gB H
  unfold wp_Ranking_rank_laying
  suffices hs : ∀ (d m : Nat) (u : pS) (row : Nat → Nat), m + d = n → fr [16] [] u0 u → Rk (bef lt) m row → (∀ j, j < m → u.2 16 j = nI (row j)) → lp_Ranking_rank_laying_2 G Q (d + 1) (nI n) (nI m) u from
    ⟨n + 1, by rw [li_0]; exact hs n 0 u0 (fun j => j) (by omega) (fr_refl _ _ _) (Rk_0 _ _) (fun j hj => absurd hj (Nat.not_lt_zero j))⟩
  intro d
  induction d with
  | zero =>
    intro m u row hd hfr R ha
    have e : m = n := by omega
    unfold lp_Ranking_rank_laying_2
    exact b_t (nI_le (by omega) (by omega)) (hQ u row hfr (by rw [← e]; exact R) (by rw [← e]; exact ha))
  | succ d ih =>
    intro m u row hd hfr R ha
    unfold lp_Ranking_rank_laying_2
    refine b_f (nI_ge (by omega) (by omega)) (b_f (by rw [gl_30 H]; exact nI_ge (by omega) (by omega)) ⟨m + 1, ?_⟩)
    refine k_rk18_laying H hn (show m < n by omega) (lt := lt) (row := row) R.1 (fun u a b Q hf => hc u a b Q (fr_trans hfr hf)) (u0 := u) ?_ m u (Nat.le_refl _) (fun j h3 h4 => by omega) (fr_refl _ _ _) ha (fun j h3 h4 => by omega)
    intro s u2 hs h1 h2 f2 a2
    exact ih (m + 1) u2 (ins row s m) (by omega) (fr_trans hfr f2) (Rk_ins hO (by omega) R hs h1 h2) a2

theorem k_rk18_highest (H : GI w h K G) {n m : Nat} (hn : n ≤ w * h) (hm : m < n) {lt : Nat → Nat → Bool} {u0 : pS} {row : Nat → Nat} (hr : ∀ j, j < m → row j < m)
    (hc : ∀ (u : pS) (a b : Nat) (Q : Int32 → pS → Prop), fr [17] [] u0 u → a < n → b < n → (∀ r : Int32, (0 ≤ r ↔ lt a b = false) → Q r u) → wp_Highest_compare G (nI a) (nI b) u Q) {Q : pS → Prop} {k2 : Int32 → Int32 → pS → Prop}
    (hk : ∀ (s : Nat) (u : pS), s ≤ m → (∀ j, s ≤ j → j < m → lt m (row j) = true) → (s = 0 ∨ lt m (row (s - 1)) = false) → fr [17] [] u0 u → (∀ j, j < m + 1 → u.2 17 j = nI (ins row s m j)) → k2 (nI n) (nI (m + 1)) u) :
    ∀ (s : Nat) (u : pS), s ≤ m → (∀ j, s ≤ j → j < m → lt m (row j) = true) → fr [17] [] u0 u → (∀ j, j < s → u.2 17 j = nI (row j)) → (∀ j, s ≤ j → j < m → u.2 17 (j + 1) = nI (row j)) → lp_Ranking_rank_highest_18 G Q k2 (s + 1) (nI n) (nI m) (nI s) u := by
  have B := gB H
  have put : ∀ (s : Nat) (u : pS), s ≤ m → (∀ j, j < s → u.2 17 j = nI (row j)) → (∀ j, s ≤ j → j < m → u.2 17 (j + 1) = nI (row j)) → ∀ j, j < m + 1 → (pw_sa u 17 (upd (u.2 17) s (nI m))).2 17 j = nI (ins row s m j) := by
    intro s u hs a1 a2 j hj
    rw [sa_eq]
    unfold ins
    by_cases e1 : j < s
    · rw [upd_ne _ _ (by omega), if_pos e1]; exact a1 j e1
    · rw [if_neg e1]
      by_cases e2 : j = s
      · rw [if_pos e2, e2, upd_eq]
      · rw [if_neg e2, upd_ne _ _ e2]
        have := a2 (j - 1) (by omega) (by omega)
        rw [show j - 1 + 1 = j by omega] at this
        exact this
  intro s
  induction s with
  | zero =>
    intro u hs h1 hfr a1 a2
    unfold lp_Ranking_rank_highest_18
    refine b_t (by decide) ⟨by rw [gl_31 H]; exact vp_in_nI (by omega) (by omega), ?_⟩
    intro u4 hu4 t ht
    rw [nI_clamp (n := 0) (by omega)] at hu4
    rw [ht, nI_1, hu4]
    exact hk 0 _ hs h1 (Or.inl rfl) (fr_sa _ (by decide) hfr) (put 0 u hs a1 a2)
  | succ s ih =>
    intro u hs h1 hfr a1 a2
    have hrs := hr s (by omega)
    unfold lp_Ranking_rank_highest_18
    rw [nI_pred, nI_clamp (n := s) (by omega), nI_clamp (n := s + 1) (by omega), a1 s (by omega), gl_31 H]
    refine b_f (nI_nle (by omega) (by omega)) ⟨vp_in_nI (by omega) (by omega), ?_⟩
    refine hc u m (row s) _ hfr hm (by omega) ?_
    intro r hrr
    rw [a1 s (by omega)]
    simp only [forall_eq]
    rw [nI_1, nI_dec]
    by_cases e : lt m (row s) = false
    · rw [bt (hrr.mpr e)]
      exact ⟨vp_in_nI (by omega) (by omega), hk (s + 1) _ hs h1 (Or.inr e) (fr_sa _ (by decide) hfr) (put (s + 1) u hs a1 a2)⟩
    · rw [bf (fun q => e (hrr.mp q))]
      refine ⟨vp_in_nI (by omega) (by omega), vp_in_nI (by omega) (by omega), ih _ (by omega) (fun j h3 h4 => ?_) (fr_sa _ (by decide) hfr) (fun j hj => ?_) (fun j h3 h4 => ?_)⟩
      · by_cases e2 : j = s
        · rw [e2]; simpa using e
        · exact h1 j (by omega) h4
      · rw [sa_eq, upd_ne _ _ (by omega)]; exact a1 j (by omega)
      · rw [sa_eq]
        by_cases e2 : j = s
        · rw [e2, upd_eq]
        · rw [upd_ne _ _ (by omega)]; exact a2 j (by omega) h4
theorem k_rank_highest (H : GI w h K G) {n : Nat} (hn : n ≤ w * h) {lt : Nat → Nat → Bool} (hO : Ord (bef lt) n) {u0 : pS}
    (hc : ∀ (u : pS) (a b : Nat) (Q : Int32 → pS → Prop), fr [17] [] u0 u → a < n → b < n → (∀ r : Int32, (0 ≤ r ↔ lt a b = false) → Q r u) → wp_Highest_compare G (nI a) (nI b) u Q) {Q : pS → Prop}
    (hQ : ∀ (u : pS) (row : Nat → Nat), fr [17] [] u0 u → Rk (bef lt) n row → (∀ j, j < n → u.2 17 j = nI (row j)) → Q u) : wp_Ranking_rank_highest G (nI n) u0 Q := by
  have B := gB H
  unfold wp_Ranking_rank_highest
  suffices hs : ∀ (d m : Nat) (u : pS) (row : Nat → Nat), m + d = n → fr [17] [] u0 u → Rk (bef lt) m row → (∀ j, j < m → u.2 17 j = nI (row j)) → lp_Ranking_rank_highest_2 G Q (d + 1) (nI n) (nI m) u from
    ⟨n + 1, by rw [li_0]; exact hs n 0 u0 (fun j => j) (by omega) (fr_refl _ _ _) (Rk_0 _ _) (fun j hj => absurd hj (Nat.not_lt_zero j))⟩
  intro d
  induction d with
  | zero =>
    intro m u row hd hfr R ha
    have e : m = n := by omega
    unfold lp_Ranking_rank_highest_2
    exact b_t (nI_le (by omega) (by omega)) (hQ u row hfr (by rw [← e]; exact R) (by rw [← e]; exact ha))
  | succ d ih =>
    intro m u row hd hfr R ha
    unfold lp_Ranking_rank_highest_2
    refine b_f (nI_ge (by omega) (by omega)) (b_f (by rw [gl_31 H]; exact nI_ge (by omega) (by omega)) ⟨m + 1, ?_⟩)
    refine k_rk18_highest H hn (show m < n by omega) (lt := lt) (row := row) R.1 (fun u a b Q hf => hc u a b Q (fr_trans hfr hf)) (u0 := u) ?_ m u (Nat.le_refl _) (fun j h3 h4 => by omega) (fr_refl _ _ _) ha (fun j h3 h4 => by omega)
    intro s u2 hs h1 h2 f2 a2
    exact ih (m + 1) u2 (ins row s m) (by omega) (fr_trans hfr f2) (Rk_ins hO (by omega) R hs h1 h2) a2

end
