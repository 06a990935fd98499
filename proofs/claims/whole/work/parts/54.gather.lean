/-! OWN ROWS: the class gathers a piece. -/
def PcR (w N : Nat) (fo : Nat → Nat) (u : pS) (k p : Nat) : Prop := u.2 10 p = nI k ∧ u.2 11 p = nI (cnt (fun j => fo j == k) N) ∧ (∃ a, u.2 12 p = nI a ∧ IsMn (fun j => j < N ∧ fo j = k) (fun j => j % w) a) ∧ (∃ b, u.2 13 p = nI b ∧ IsMx (fun j => j < N ∧ fo j = k) (fun j => j % w) b) ∧ (∃ d, u.2 14 p = nI d ∧ IsMx (fun j => j < N ∧ fo j = k) (fun j => j / w) d)
section
variable {w h K : Nat} {G : pG}
theorem k_begin (H : GI w h K G) {k p : Nat} (hk : k < w * h) (hp : p < w * h) {u : pS} {Q : pS → Prop} (hQ : ∀ u', fr [10, 11, 12, 13, 14] [] u u' → u'.2 10 = upd (u.2 10) p (nI k) → u'.2 11 = upd (u.2 11) p (nI 0) → u'.2 12 = upd (u.2 12) p (nI (k % w)) → u'.2 13 = upd (u.2 13) p (nI (k % w)) → u'.2 14 = upd (u.2 14) p (nI (k / w)) → Q u') : wp_Pieces_begin G (nI k) (nI p) u Q := by
  have B := gB H
  have hv : vp_in (nI p) (w * h) := vp_in_nI hp (by omega)
  have hc : (nI p).toNatClampNeg = p := nI_clamp (by omega)
  unfold wp_Pieces_begin
  simp only [forall_eq, gl_24 H, gl_25 H, gl_26 H, gl_27 H, gl_28 H, e_col H hk, e_row H hk, hc, hv, true_and]
  refine hQ _ (fr_sa _ (by decide) (fr_sa _ (by decide) (fr_sa _ (by decide) (fr_sa _ (by decide) (fr_sa _ (by decide) (fr_refl _ _ _)))))) ?_ ?_ ?_ ?_ ?_ <;> simp (disch := decide) only [sa_eq, sa_ne, li_0]
theorem k_include (H : GI w h K G) {k p : Nat} (hk : k < w * h) (hp : p < w * h) {u : pS} {Q : pS → Prop} (hQ : ∀ u', fr [11, 12, 13, 14] [] u u' → u'.2 11 = upd (u.2 11) p (u.2 11 p + 1) → u'.2 12 = upd (u.2 12) p (if nI (k % w) < u.2 12 p then nI (k % w) else u.2 12 p) → u'.2 13 = upd (u.2 13) p (if u.2 13 p < nI (k % w) then nI (k % w) else u.2 13 p) → u'.2 14 = upd (u.2 14) p (if u.2 14 p < nI (k / w) then nI (k / w) else u.2 14 p) → Q u') : wp_Pieces_include G (nI k) (nI p) u Q := by
  have B := gB H
  have hv : vp_in (nI p) (w * h) := vp_in_nI hp (by omega)
  have hc : (nI p).toNatClampNeg = p := nI_clamp (by omega)
  unfold wp_Pieces_include
  simp only [forall_eq, gl_24 H, gl_25 H, gl_26 H, gl_27 H, gl_28 H, e_col H hk, e_row H hk, hc, hv, true_and]
  refine hQ _ (fr_sa _ (by decide) (fr_sa _ (by decide) (fr_sa _ (by decide) (fr_sa _ (by decide) (fr_refl _ _ _))))) ?_ ?_ ?_ ?_ <;> simp (disch := decide) only [sa_eq, sa_ne]
/-- M: what is marked as the piece pc; q: the row of the waiting, kn of them -/
def gM (u0 u : pS) (N pc st : Nat) (fo : Nat → Nat) (M : Nat → Bool) (q : Nat → Nat) (kn : Nat) : Prop :=
  (∀ k, k < N → u.2 7 k = if M k = true then nI pc else u0.2 7 k) ∧ (∀ i, i < kn → u.2 8 i = nI (q i) ∧ q i < N ∧ M (q i) = true) ∧ kn = cnt M N ∧ (∀ k, k < N → M k = true → fo k = st ∧ ∃ i, i < kn ∧ q i = k)
theorem k_g62 (H : GI w h K G) {u0 ub : pS} {fo : Nat → Nat} {f : Nat → Int32} (hfo : IsFo (Rg w h f) (w * h) fo) {st pc pk se : Nat} (hst : st < w * h) (hfs : fo st = st) (hpc : pc < w * h) (hpk : pk < w * h) (hfp : fo pk = st)
    (h0 : ∀ k, k < w * h → u0.2 7 k = if fo k < st then nI (cnt (fx fo) (fo k)) else -1) (h6 : ub.2 6 = f) {M0 : Nat → Bool} {q0 : Nat → Nat} {kn0 : Nat} {Q : pS → Prop} {k25 : Int32 → Int32 → Int32 → Int32 → pS → Prop}
    (hk : ∀ (u : pS) (M : Nat → Bool) (q : Nat → Nat) (kn : Nat), fr [7, 8] [] ub u → gM u0 u (w * h) pc st fo M q kn → (∀ k, M0 k = true → M k = true) → (∀ i, i < kn0 → q i = q0 i) → kn0 ≤ kn → (∀ s j, s < 4 → j < w * h → bs w h pk s = (j : Int) → f j = f pk → M j = true) → k25 (nI st) (nI pc) (nI kn) (nI (se + 1)) u) :
    ∀ (d s : Nat) (u : pS) (M : Nat → Bool) (q : Nat → Nat) (kn : Nat), s + d = 4 → fr [7, 8] [] ub u → gM u0 u (w * h) pc st fo M q kn → (∀ k, M0 k = true → M k = true) → (∀ i, i < kn0 → q i = q0 i) → kn0 ≤ kn → (∀ s' j, s' < s → j < w * h → bs w h pk s' = (j : Int) → f j = f pk → M j = true) →
      lp_Pieces_gather_62 G Q k25 (d + 1) (nI st) (nI pc) (nI kn) (nI se) (nI pk) (nI s) u := by
  have B := gB H
  have hfk : f pk = f st := Cn_f (fo_same Rg_symm hfo hpk hst (by rw [hfp, hfs]))
  intro d
  induction d with
  | zero =>
    intro s u M q kn hs hfr hg h1 h2 h3 h4
    have e : s = 4 := by omega
    unfold lp_Pieces_gather_62
    refine b_t (by rw [e, li_4]; exact nI_le (by omega) (by omega)) ?_
    intro t ht
    rw [ht, nI_1]
    exact hk u M q kn hfr hg h1 h2 h3 (by rw [← e]; exact h4)
  | succ d ih =>
    intro s u M q kn hs hfr hg h1 h2 h3 h4
    have h62 : u.2 6 = f := (hfr.1 6 (by decide)).trans h6
    have hkn : kn ≤ w * h := by rw [hg.2.2.1]; exact cnt_le M (w * h)
    unfold lp_Pieces_gather_62
    refine b_f (by rw [li_4]; exact nI_ge (by omega) (by omega)) ?_
    rw [e_bes H hpk (by omega)]
    simp only [forall_eq, nI_1, gl_20 H, gl_21 H, gl_22 H, gp_3 H]
    rcases bs_cases hpk (show s < 4 by omega) with hb | ⟨j, hj, hb, _⟩
    · rw [hb, ← lz_m1]
      refine b_t rfl (ih (s + 1) u M q kn (by omega) hfr hg h1 h2 h3 ?_)
      intro s' j hs' hj hbj hff
      by_cases e : s' = s
      · rw [e, hb] at hbj; omega
      · exact h4 s' j (by omega) hj hbj hff
    · rw [hb, ← nI_z]
      have hcl : (nI j).toNatClampNeg = j := nI_clamp (by omega)
      rw [hcl, nI_clamp (n := st) (by omega), nI_clamp (n := kn) (by omega), hg.1 j hj, h62]
      refine b_f (nI_nm1 (by omega)) ⟨vp_in_nI hj (by omega), ?_⟩
      have next : M j = true ∨ ¬ f j = f pk → lp_Pieces_gather_62 G Q k25 (d + 1) (nI st) (nI pc) (nI kn) (nI se) (nI pk) (nI (s + 1)) u := by
        intro hor
        refine ih (s + 1) u M q kn (by omega) hfr hg h1 h2 h3 ?_
        intro s' j' hs' hj' hbj hff
        by_cases e : s' = s
        · rw [e, hb] at hbj
          have e2 : j' = j := by omega
          rw [e2] at hff ⊢
          rcases hor with h | h
          · exact h
          · exact absurd hff h
        · exact h4 s' j' (by omega) hj' hbj hff
      by_cases hM : M j = true
      · rw [if_pos hM]
        exact b_f (nI_nm1 (by omega)) (next (Or.inl hM))
      · rw [if_neg hM, h0 j hj]
        by_cases hlt : fo j < st
        · rw [if_pos hlt]
          have hc := cnt_le (fx fo) (fo j)
          refine b_f (nI_nm1 (by omega)) (next (Or.inr ?_))
          intro hff
          have := hfo.2 pk j ⟨hpk, hj, hff.symm, s, by omega, hb⟩
          omega
        · rw [if_neg hlt]
          refine b_t rfl ⟨vp_in_nI hj (by omega), vp_in_nI hst (by omega), ?_⟩
          by_cases hw : f j = f st
          · have hM2 : M j = false := by simpa using hM
            have hlt2 : kn < w * h := by rw [hg.2.2.1]; exact cnt_lt hj hM2
            refine b_t hw (b_f (nI_ge hlt2 (by omega)) ⟨vp_in_nI hj (by omega), vp_in_nI hlt2 (by omega), ?_⟩)
            have hfj : fo j = st := by
              have := hfo.2 pk j ⟨hpk, hj, by rw [hw, hfk], s, by omega, hb⟩
              omega
            refine ih (s + 1) _ (fun k => M k || k == j) (fun i => if i = kn then j else q i) (kn + 1) (by omega) (fr_sa _ (by decide) (fr_sa _ (by decide) hfr)) ?_ (fun k hk => by simp [h1 k hk]) ?_ (by omega) ?_
            · refine ⟨fun k hk => ?_, fun i hi => ?_, ?_, fun k hk hMk => ?_⟩
              · simp (disch := decide) only [sa_eq, sa_ne]
                by_cases e : k = j
                · rw [e, upd_eq]; simp
                · rw [upd_ne _ _ e, hg.1 k hk]; simp [e]
              · simp (disch := decide) only [sa_eq, sa_ne]
                by_cases e : i = kn
                · rw [e, upd_eq]; simp [hj]
                · rw [upd_ne _ _ e]
                  have := hg.2.1 i (by omega)
                  simp [e, this]
              · rw [cnt_upd (P := M) hj hM2 (by simp) (fun k _ hkj => by simp [hkj]), ← hg.2.2.1]
              · by_cases e : k = j
                · exact ⟨by rw [e]; exact hfj, kn, by omega, by simp [e]⟩
                · have hMk2 : M k = true := by simpa [e] using hMk
                  obtain ⟨a1, i, a2, a3⟩ := hg.2.2.2 k hk hMk2
                  exact ⟨a1, i, by omega, by simp [show ¬ i = kn by omega, a3]⟩
            · intro i hi
              have := h2 i hi
              simp [show ¬ i = kn by omega, this]
            · intro s' j' hs' hj' hbj hff
              by_cases e : s' = s
              · rw [e, hb] at hbj
                have e2 : j' = j := by omega
                simp [e2]
              · simp [h4 s' j' (by omega) hj' hbj hff]
          · refine b_f hw (next (Or.inr ?_))
            rw [hfk]; exact hw
end
