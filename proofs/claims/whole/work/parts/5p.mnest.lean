/-! OWN ROWS: the reference nests. -/
/-- the reference's sheet is s -/
def SM (v : pS) (s : sS) : Prop := v.1 5 = nI s.1 ∧ ∀ r, r < s.1 → v.2 11 r = nI (s.2.1 r) ∧ v.2 12 r = nI (s.2.2.1 r) ∧ v.2 13 r = nI (s.2.2.2.1 r)
theorem Rk_tot {bf : Nat → Nat → Bool} {n a b : Nat} {row : Nat → Nat} (R : Rk bf n row) (ha : a < n) (hb : b < n) (hab : a ≠ b) : bf a b = true ∨ bf b a = true := by
  obtain ⟨i, hi, rfl⟩ := Rk_surj R ha
  obtain ⟨j, hj, rfl⟩ := Rk_surj R hb
  rcases Nat.lt_trichotomy i j with e | e | e
  · exact Or.inl (R.2.2 i j e hj)
  · rw [e] at hab; exact absurd rfl hab
  · exact Or.inr (R.2.2 j i e hi)
section
variable {w h K : Nat} {G : pG}
theorem m_lay (M : MI w h K G) {v : pS} {f : Nat → Int32} {fo F : Nat → Nat} {c p : Nat} {lx mx ly my : Nat → Nat} (P : PS w h f fo F c) (C : MPw (w * h) fo v) (q : CQ w h fo F c lx mx ly my) (hp : p < c) {W Hh : Nat} (hW : W ≤ 100) (hH : Hh ≤ 100) {st : sS} (S : SM v st) (L : LI W Hh st) {Q : Int32 → pS → Prop}
    (hQ : ∀ v', fr [9, 10, 11, 12, 13] [5] v v' → SM v' (lay1 W Hh st (mx p - lx p + 1) (my p - ly p + 1)).1 → v'.2 9 = (match (lay1 W Hh st (mx p - lx p + 1) (my p - ly p + 1)).2 with | some r => upd (v.2 9) p (nI r.1) | none => v.2 9) → v'.2 10 = (match (lay1 W Hh st (mx p - lx p + 1) (my p - ly p + 1)).2 with | some r => upd (v.2 10) p (nI r.2) | none => v.2 10) → Q (bI (lay1 W Hh st (mx p - lx p + 1) (my p - ly p + 1)).2.isSome) v') : wp_Model_lay G (nI p) (nI W) (nI Hh) v Q := by
  have B := mB M
  have hcN := PS_c P
  have hb := CQ_b q hp
  obtain ⟨n, tp, hg, us, bo⟩ := st
  obtain ⟨s5, sr⟩ := id S
  obtain ⟨l1, l2, l3, l4, l5⟩ := id L
  dsimp only at s5 sr l1 l2 l3 l4 l5
  have hvp : vp_in (nI p) 400 := vp_in_nI (by omega) (by omega)
  unfold wp_Model_lay
  refine m_end2 M P C q hp (m_end0 M P C q hp ?_)
  intro t5 ht5
  refine m_end3 M P C q hp (m_end1 M P C q hp ?_)
  intro t10 ht10
  rw [nI_sub (by omega), nI_1] at ht5 ht10
  rw [ht5, ht10]
  generalize hcw : mx p - lx p + 1 = cw at *
  generalize hch : my p - ly p + 1 = ch at *
  have hcw2 : cw ≤ 20 := by omega
  have hch2 : 0 < ch ∧ ch ≤ 20 := by omega
  have hl1 : lay1 W Hh (n, tp, hg, us, bo) cw ch = (if fnd W us hg cw ch n 0 < n then ((n, tp, hg, nup us (fnd W us hg cw ch n 0) (us (fnd W us hg cw ch n 0) + cw), bo), some (us (fnd W us hg cw ch n 0), tp (fnd W us hg cw ch n 0))) else if cw ≤ W ∧ bo + ch ≤ Hh then ((n + 1, nup tp n bo, nup hg n ch, nup us n cw, bo + ch), some (0, bo)) else ((n, tp, hg, us, bo), none)) := rfl
  rw [hl1] at hQ
  have j176 : ∀ (v1 : pS) (n1 r : Nat) (tp1 hg1 us1 : Nat → Nat) (b1 : Nat), fr [9, 10, 11, 12, 13] [5] v v1 → v1.2 9 = v.2 9 → v1.2 10 = v.2 10 → SM v1 (n1, tp1, hg1, us1, b1) → r < n1 → n1 ≤ 100 → (∀ v', fr [9, 10, 11, 12, 13] [5] v v' → SM v' (n1, tp1, hg1, nup us1 r (us1 r + cw), b1) → v'.2 9 = upd (v.2 9) p (nI (us1 r)) → v'.2 10 = upd (v.2 10) p (nI (tp1 r)) → Q 1 v') → jn_Model_lay_176 G Q (nI p) (nI cw) (nI r) v1 := by
    intro v1 n1 r tp1 hg1 us1 b1 f1 e9 e10 S1 hr hn1 hq
    have sr1 := S1.2 r hr
    dsimp only at sr1
    have hvr : vp_in (nI r) 100 := vp_in_nI (by omega) (by omega)
    unfold jn_Model_lay_176
    rw [ml_10 M, ml_11 M, ml_12 M, ml_14 M, nI_clamp (n := r) (by omega), nI_clamp (n := p) (by omega)]
    refine ⟨hvr, hvp, ?_⟩
    intro u13 hu13
    refine ⟨hvr, hvp, ?_⟩
    intro u14 hu14
    refine ⟨hvr, hvr, ?_⟩
    intro u15 hu15
    have e13 : u14.2 13 = v1.2 13 := by rw [hu14, hu13]; simp (disch := decide) only [sa_ne]
    refine hq u15 ?_ ⟨?_, fun k hk => ?_⟩ ?_ ?_
    · rw [hu15, hu14, hu13]; exact fr_sa _ (by decide) (fr_sa _ (by decide) (fr_sa _ (by decide) f1))
    · rw [hu15, hu14, hu13, sa_i, sa_i, sa_i]; exact S1.1
    · have sk := S1.2 k hk
      rw [hu15, sa_ne _ _ (by decide), sa_ne _ _ (by decide), sa_eq, e13]
      rw [hu14, sa_ne _ _ (by decide), sa_ne _ _ (by decide), hu13, sa_ne _ _ (by decide), sa_ne _ _ (by decide)]
      refine ⟨sk.1, sk.2.1, ?_⟩
      dsimp only
      by_cases e : k = r
      · rw [e, upd_eq, nup_eq, sr1.2.2, nI_add]
      · rw [upd_ne _ _ e, nup_ne _ _ e]; exact sk.2.2
    · rw [hu15, sa_ne _ _ (by decide), hu14, sa_ne _ _ (by decide), hu13, sa_eq, e9, sr1.2.2]
    · rw [hu15, sa_ne _ _ (by decide), hu14, sa_eq, hu13, sa_ne _ _ (by decide), sa_ne _ _ (by decide), e10, sr1.1]
  suffices hl : ∀ (d r : Nat), r + d = n → fnd W us hg cw ch n 0 = fnd W us hg cw ch d r → lp_Model_lay_37 G Q (d + 1) (nI p) (nI W) (nI Hh) (nI cw) (nI ch) (nI r) v from
    ⟨n + 1, by rw [li_0]; exact hl n 0 (by omega) rfl⟩
  intro d
  induction d with
  | zero =>
    intro r hd hf
    have e : r = n := by omega
    have hf2 : ¬ fnd W us hg cw ch n 0 < n := by
      rw [hf]
      show ¬ r < n
      omega
    rw [if_neg hf2] at hQ
    unfold lp_Model_lay_37
    rw [s5]
    refine b_t (nI_le (by omega) (by omega)) ?_
    have j121 : jn_Model_lay_121 G Q (jn_Model_lay_176 G Q) (nI p) (nI W) (nI Hh) (nI cw) (nI ch) (nI n) (nI bo) v := by
      unfold jn_Model_lay_121
      rw [ml_12 M, ml_13 M, ml_14 M, nI_add, nI_clamp (n := n) (by omega)]
      by_cases e1 : W < cw
      · rw [if_neg (by omega)] at hQ
        exact b_t (nI_lt e1 (by omega)) (hQ v (fr_refl _ _ _) S rfl rfl)
      · refine b_f (nI_nlt (by omega) (by omega)) ?_
        by_cases e2 : bo + ch ≤ Hh
        · rw [if_pos ⟨by omega, e2⟩] at hQ
          have hvn : vp_in (nI n) 100 := vp_in_nI (by omega) (by omega)
          refine b_t (nI_le e2 (by omega)) ⟨hvn, ?_⟩
          intro u19 hu19
          refine ⟨hvn, ?_⟩
          intro u20 hu20
          refine ⟨hvn, ?_⟩
          intro u21 hu21 u22 hu22
          have e5 : u22.1 5 = nI (n + 1) := by rw [hu22, si_eq, hu21, hu20, hu19, sa_i, sa_i, sa_i, s5, nI_1]
          have f22 : fr [9, 10, 11, 12, 13] [5] v u22 := by
            rw [hu22, hu21, hu20, hu19]
            exact fr_si _ (by decide) (fr_sa _ (by decide) (fr_sa _ (by decide) (fr_sa _ (by decide) (fr_refl _ _ _))))
          have S22 : SM u22 (n + 1, nup tp n bo, nup hg n ch, nup us n 0, bo + ch) := by
            refine ⟨e5, fun k hk => ?_⟩
            dsimp only at hk ⊢
            rw [hu22, hu21, hu20, hu19]
            simp (disch := decide) only [si_a, sa_eq, sa_ne]
            by_cases ek : k = n
            · rw [ek, upd_eq, upd_eq, upd_eq, nup_eq, nup_eq, nup_eq]; exact ⟨rfl, rfl, li_0⟩
            · rw [upd_ne _ _ ek, upd_ne _ _ ek, upd_ne _ _ ek, nup_ne _ _ ek, nup_ne _ _ ek, nup_ne _ _ ek]; exact sr k (by omega)
          refine j176 u22 (n + 1) n _ _ _ _ f22 ?_ ?_ S22 (by omega) (by omega) ?_
          · rw [hu22, hu21, hu20, hu19]; simp (disch := decide) only [si_a, sa_ne]
          · rw [hu22, hu21, hu20, hu19]; simp (disch := decide) only [si_a, sa_ne]
          · intro v' f' S' e9' e10'
            rw [nup_eq] at S' e9' e10'
            rw [Nat.zero_add] at S'
            have enn : nup (nup us n 0) n cw = nup us n cw := by
              funext j
              unfold nup
              by_cases ej : j = n
              · rw [if_pos ej, if_pos ej]
              · rw [if_neg ej, if_neg ej, if_neg ej]
            rw [enn] at S'
            exact hQ v' f' S' e9' e10'
        · rw [if_neg (by omega)] at hQ
          exact b_f (nI_ge (by omega) (by omega)) (hQ v (fr_refl _ _ _) S rfl rfl)
    unfold jn_Model_lay_78
    rw [s5, e]
    refine b_t rfl ?_
    by_cases e0 : n = 0
    · refine b_t (by rw [e0]; rfl) ?_
      have := l3 e0
      rw [this] at j121
      exact j121
    · have l4' := l4 (by omega)
      have hsr := sr (n - 1) (by omega)
      have hpred : nI n - 1 = nI (n - 1) := by rw [li_1]; exact nI_sub (by omega)
      rw [hpred, ml_12 M, ml_13 M, nI_clamp (n := n - 1) (by omega), hsr.1, hsr.2.1, nI_add, l4']
      exact b_f (nI_ne0 (by omega) (by omega)) ⟨vp_in_nI (by omega) (by omega), vp_in_nI (by omega) (by omega), j121⟩
  | succ d ih =>
    intro r hd hf
    have hr := sr r (by omega)
    have hb := l5 r (by omega)
    unfold lp_Model_lay_37
    rw [s5, ml_13 M, ml_14 M, nI_clamp (n := r) (by omega), hr.2.1, hr.2.2, nI_add]
    simp only [forall_eq, nI_1]
    refine b_f (nI_ge (by omega) (by omega)) ⟨vp_in_nI (by omega) (by omega), ?_⟩
    rw [fnd_s] at hf
    by_cases e : us r + cw ≤ W ∧ ch ≤ hg r
    · rw [if_pos e] at hf
      rw [hf, if_pos (show r < n by omega)] at hQ
      refine b_f (nI_nlt (by omega) (by omega)) ⟨vp_in_nI (by omega) (by omega), b_t (nI_le e.2 (by omega)) ?_⟩
      unfold jn_Model_lay_78
      rw [s5]
      refine b_f (fun qq => by have := (nI_eq (by omega) (by omega)).mp qq; omega) ?_
      exact j176 v n r tp hg us bo (fr_refl _ _ _) rfl rfl S (by omega) (by omega) (fun v' f' S' e9' e10' => hQ v' f' S' e9' e10')
    · rw [if_neg e] at hf
      by_cases e1 : W < us r + cw
      · exact b_t (nI_lt e1 (by omega)) (ih (r + 1) (by omega) hf)
      · exact b_f (nI_nlt (by omega) (by omega)) ⟨vp_in_nI (by omega) (by omega), b_f (nI_ge (by omega) (by omega)) (ih (r + 1) (by omega) hf)⟩
end
