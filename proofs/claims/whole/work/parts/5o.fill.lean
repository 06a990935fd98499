/-! OWN ROWS: the class fills the sheet. -/
section
variable {w h K : Nat} {G : pG}
theorem SC_nup {u : pS} {n bo r x : Nat} {tp hg us : Nat → Nat} (S : SC u (n, tp, hg, us, bo)) {u' : pS} (hf : fr [21, 22, 25] [] u u') (e : u'.2 25 = upd (u.2 25) r (nI x)) : SC u' (n, tp, hg, nup us r x, bo) := by
  obtain ⟨s8, s9, sr⟩ := S
  refine ⟨by rw [hf.2 8 (by decide)]; exact s8, by rw [hf.2 9 (by decide)]; exact s9, fun q hq => ?_⟩
  have := sr q hq
  rw [hf.1 23 (by decide), hf.1 24 (by decide), e]
  refine ⟨this.1, this.2.1, ?_⟩
  by_cases eq : q = r
  · rw [eq, upd_eq, show (n, tp, hg, nup us r x, bo).2.2.2.1 = nup us r x from rfl, nup_eq]
  · rw [upd_ne _ _ eq, show (n, tp, hg, nup us r x, bo).2.2.2.1 = nup us r x from rfl, nup_ne _ _ eq]; exact this.2.2
theorem k_put (H : GI w h K G) {u : pS} {fo F : Nat → Nat} {c p : Nat} {lx mx ly my : Nat → Nat} (hcN : c ≤ w * h) (q : CQ w h fo F c lx mx ly my) (C : CA w h fo F c lx mx ly my u) (hp : p < c) {n bo r : Nat} {tp hg us : Nat → Nat} (hr : r < n) (hn : n ≤ w * h) (S : SC u (n, tp, hg, us, bo)) {Q : pS → Prop}
    (hQ : ∀ u', fr [21, 22, 25] [] u u' → u'.2 21 = upd (u.2 21) p (nI (us r)) → u'.2 22 = upd (u.2 22) p (nI (tp r)) → SC u' (n, tp, hg, nup us r (us r + (mx p - lx p + 1)), bo) → Q u') : wp_Sheet_put G (nI p) (nI r) u Q := by
  have B := gB H
  have sr := S.2.2 r hr
  dsimp only at sr
  have hvp : vp_in (nI p) (w * h) := vp_in_nI (by omega) (by omega)
  have hvr : vp_in (nI r) (w * h) := vp_in_nI (by omega) (by omega)
  unfold wp_Sheet_put
  rw [gl_35 H, gl_36 H, gl_37 H, gl_39 H, nI_clamp (n := r) (by omega), nI_clamp (n := p) (by omega)]
  refine ⟨hvr, hvp, ?_⟩
  intro u1 hu1
  refine ⟨hvr, hvp, ?_⟩
  intro u2 hu2
  refine ⟨hvr, ?_⟩
  have f2 : fr [21, 22, 25] [] u u2 := by
    rw [hu2, hu1]; exact fr_sa _ (by decide) (fr_sa _ (by decide) (fr_refl _ _ _))
  rw [e_cols H hcN q (CA_fr C f2) hp]
  refine ⟨hvr, ?_⟩
  intro u5 hu5
  have e25 : u2.2 25 = u.2 25 := by rw [hu2, hu1]; simp (disch := decide) only [sa_ne]
  refine hQ u5 ?_ ?_ ?_ ?_
  · rw [hu5]; exact fr_sa _ (by decide) f2
  · rw [hu5, hu2, hu1]; simp (disch := decide) only [sa_ne, sa_eq]; rw [sr.2.2]
  · rw [hu5, hu2, hu1]; simp (disch := decide) only [sa_ne, sa_eq]; rw [sr.1]
  · refine SC_nup S (u' := u5) (by rw [hu5]; exact fr_sa _ (by decide) f2) ?_
    rw [hu5, sa_eq, e25, sr.2.2, nI_add]
theorem k_fill (H : GI w h K G) {u0 : pS} {f : Nat → Int32} {fo F : Nat → Nat} {c : Nat} {lx mx ly my : Nat → Nat} (P : PS w h f fo F c) (hc2 : u0.1 2 = nI c) (q : CQ w h fo F c lx mx ly my) (C : CA w h fo F c lx mx ly my u0) {W Hh : Nat} (hW : W ≤ 100) (hH : Hh ≤ 100) {Q : Int32 → pS → Prop}
    (hQ : ∀ u row, fr [17, 21, 22, 23, 24, 25] [8, 9] u0 u → Rk (bef (ltH lx mx ly my)) c row → (∀ i, i < c → u.2 21 (row i) = rx (layR W Hh (fun p => mx p - lx p + 1) (fun p => my p - ly p + 1) row i) ∧ u.2 22 (row i) = ry (layR W Hh (fun p => mx p - lx p + 1) (fun p => my p - ly p + 1) row i)) → Q (nI (cnt (fun i => (layR W Hh (fun p => mx p - lx p + 1) (fun p => my p - ly p + 1) row i).isSome) c)) u) : wp_Sheet_fill G (nI W) (nI Hh) u0 Q := by
  have B := gB H
  have hcN := PS_c P
  unfold wp_Sheet_fill
  rw [hc2]
  refine k_rank_highest H hcN (Ord_H lx mx ly my c) (fun u a b Q hf ha hb hQ => k_cmpH H hcN P.2.1 q (CA_fr C hf) ha hb hQ) ?_
  intro u1 row f1 R1 a17 u2 hu2 u3 hu3
  have f3 : fr [17, 21, 22, 23, 24, 25] [8, 9] u0 u3 := by
    rw [hu3, hu2]; exact fr_si _ (by decide) (fr_si _ (by decide) (fr_mono f1 (by decide) (by decide)))
  have e17 : ∀ j, j < c → u3.2 17 j = nI (row j) := by
    rw [hu3, hu2, si_a, si_a]; exact a17
  have s30 : SC u3 (layK W Hh (fun p => mx p - lx p + 1) (fun p => my p - ly p + 1) row 0) := by
    refine ⟨?_, ?_, fun r hr => absurd hr (Nat.not_lt_zero r)⟩
    · rw [hu3, si_ne _ _ (by decide), hu2, si_eq]; exact li_0
    · rw [hu3, si_eq]; exact li_0
  have hinj := fun i j hi hj e => Rk_inj (Ord_H lx mx ly my c) R1 (i := i) (j := j) hi hj e
  have hQ' := fun u hfr => hQ u row hfr R1
  generalize hcw : (fun p => mx p - lx p + 1) = cwf at *
  generalize hcH : (fun p => my p - ly p + 1) = chf at *
  have hch : ∀ p, 0 < chf p := fun p => by rw [← hcH]; dsimp only; omega
  suffices hl : ∀ (d k : Nat) (u : pS), k + d = c → fr [21, 22, 23, 24, 25] [8, 9] u3 u → SC u (layK W Hh cwf chf row k) → (∀ i, i < k → u.2 21 (row i) = rx (layR W Hh cwf chf row i) ∧ u.2 22 (row i) = ry (layR W Hh cwf chf row i)) → lp_Sheet_fill_29 G Q (d + 1) (nI W) (nI Hh) (nI (cnt (fun i => (layR W Hh cwf chf row i).isSome) k)) (nI k) u from
    ⟨c + 1, by rw [li_0]; exact hl c 0 u3 (by omega) (fr_refl _ _ _) s30 (fun i hi => absurd hi (Nat.not_lt_zero i))⟩
  intro d
  induction d with
  | zero =>
    intro k u hd hfr S ha
    have e : k = c := by omega
    unfold lp_Sheet_fill_29
    rw [hfr.2 2 (by decide), f3.2 2 (by decide), hc2, e]
    refine b_t (nI_le (by omega) (by omega)) (hQ' u (fr_trans f3 (fr_mono hfr (by decide) (by decide))) (fun i hi => ha i (by omega)))
  | succ d ih =>
    intro k u hd hfr S ha
    have hk : k < c := by omega
    have hrk := R1.1 k hk
    have hb := CQ_b q hrk
    have Cu : CA w h fo F c lx mx ly my u := CA_fr (CA_fr C f3) hfr
    have hLI := layK_LI (W := W) (Hh := Hh) (cwf := cwf) (row := row) hch k
    have ecw : mx (row k) - lx (row k) + 1 = cwf (row k) := by rw [← hcw]
    have ech : my (row k) - ly (row k) + 1 = chf (row k) := by rw [← hcH]
    have hcnt : cnt (fun i => (layR W Hh cwf chf row i).isSome) (k + 1) = cnt (fun i => (layR W Hh cwf chf row i).isSome) k + (if (layR W Hh cwf chf row k).isSome then 1 else 0) := rfl
    have hKs : layK W Hh cwf chf row (k + 1) = (lay1 W Hh (layK W Hh cwf chf row k) (cwf (row k)) (chf (row k))).1 := rfl
    have hRd : layR W Hh cwf chf row k = (lay1 W Hh (layK W Hh cwf chf row k) (cwf (row k)) (chf (row k))).2 := rfl
    have keep : ∀ (u5 : pS) (X Y : Int32), u5.2 21 = upd (u.2 21) (row k) X → u5.2 22 = upd (u.2 22) (row k) Y → X = rx (layR W Hh cwf chf row k) → Y = ry (layR W Hh cwf chf row k) → ∀ i, i < k + 1 → u5.2 21 (row i) = rx (layR W Hh cwf chf row i) ∧ u5.2 22 (row i) = ry (layR W Hh cwf chf row i) := by
      intro u5 X Y e1 e2 e3 e4 i hi
      rw [e1, e2]
      by_cases ei : i = k
      · rw [ei, upd_eq, upd_eq]; exact ⟨e3, e4⟩
      · have hne : row i ≠ row k := fun qq => ei (hinj i k (by omega) hk qq)
        rw [upd_ne _ _ hne, upd_ne _ _ hne]; exact ha i (by omega)
    have unf : ∀ (u5 : pS), fr [21, 22, 23, 24, 25] [8, 9] u u5 → SC u5 (layK W Hh cwf chf row (k + 1)) → (∀ i, i < k + 1 → u5.2 21 (row i) = rx (layR W Hh cwf chf row i) ∧ u5.2 22 (row i) = ry (layR W Hh cwf chf row i)) → lp_Sheet_fill_29 G Q (d + 1) (nI W) (nI Hh) (nI (cnt (fun i => (layR W Hh cwf chf row i).isSome) (k + 1))) (nI (k + 1)) u5 := fun u5 g1 g2 g3 => ih (k + 1) u5 (by omega) (fr_trans hfr g1) g2 g3
    rw [hcnt, hKs] at unf
    rw [hRd] at unf
    rw [hRd] at keep
    unfold lp_Sheet_fill_29
    rw [hfr.2 2 (by decide), f3.2 2 (by decide), hc2]
    refine b_f (nI_ge (by omega) (by omega)) ?_
    unfold wp_Ranking_ranked_highest
    rw [gl_31 H, nI_clamp (n := k) (by omega), hfr.1 17 (by decide), e17 k hk]
    refine ⟨vp_in_nI (by omega) (by omega), ?_⟩
    unfold wp_Sheet_rowFor
    dsimp only
    rw [e_cols H hcN q Cu hrk, e_rows H hcN P.2.1 q Cu hrk, ecw, ech]
    generalize layK W Hh cwf chf row k = st at S hLI unf keep
    obtain ⟨n, tp, hg, us, bo⟩ := st
    obtain ⟨L, hnk⟩ := hLI
    dsimp only at hnk
    refine k_rowFor H hW hH (by omega) (by omega) (by omega) S L ?_ ?_ ?_
    · intro hlt
      simp only [forall_eq, nI_1]
      have hl := fnd_le W us hg (cwf (row k)) (chf (row k)) n 0
      refine b_f (nI_nm1 (by omega)) ?_
      have e1 : lay1 W Hh (n, tp, hg, us, bo) (cwf (row k)) (chf (row k)) = ((n, tp, hg, nup us (fnd W us hg (cwf (row k)) (chf (row k)) n 0) (us (fnd W us hg (cwf (row k)) (chf (row k)) n 0) + cwf (row k)), bo), some (us (fnd W us hg (cwf (row k)) (chf (row k)) n 0), tp (fnd W us hg (cwf (row k)) (chf (row k)) n 0))) := by
        unfold lay1; dsimp only; rw [if_pos hlt]
      rw [e1] at unf keep
      refine k_put H hcN q Cu hrk hlt (by omega) S ?_
      intro u5 f5 e21 e22 S5
      rw [ecw] at S5
      exact unf u5 (fr_mono f5 (by decide) (by decide)) S5 (keep u5 _ _ e21 e22 rfl rfl)
    · intro hlt hno
      simp only [forall_eq, nI_1, gl_35 H, gl_36 H]
      have e1 : lay1 W Hh (n, tp, hg, us, bo) (cwf (row k)) (chf (row k)) = ((n, tp, hg, us, bo), none) := by
        unfold lay1; dsimp only; rw [if_neg hlt, if_neg hno]
      rw [e1] at unf keep
      rw [nI_clamp (n := row k) (by omega)]
      refine b_t trivial ⟨vp_in_nI (by omega) (by omega), vp_in_nI (by omega) (by omega), ?_⟩
      have ff : fr [21, 22, 25] [] u (pw_sa (pw_sa u 21 (upd (u.2 21) (row k) (-1))) 22 (upd ((pw_sa u 21 (upd (u.2 21) (row k) (-1))).2 22) (row k) (-1))) := fr_sa _ (by decide) (fr_sa _ (by decide) (fr_refl _ _ _))
      refine unf _ (fr_mono ff (by decide) (by decide)) ?_ (keep _ (-1) (-1) ?_ ?_ rfl rfl)
      · refine ⟨by rw [ff.2 8 (by decide)]; exact S.1, by rw [ff.2 9 (by decide)]; exact S.2.1, fun r hr => ?_⟩
        simp (disch := decide) only [sa_ne]
        exact S.2.2 r hr
      · simp (disch := decide) only [sa_ne, sa_eq]
      · simp (disch := decide) only [sa_ne, sa_eq]
    · intro hlt hfit u4 f4 S4
      simp only [forall_eq, nI_1]
      refine b_f (nI_nm1 (by omega)) ?_
      have e1 : lay1 W Hh (n, tp, hg, us, bo) (cwf (row k)) (chf (row k)) = ((n + 1, nup tp n bo, nup hg n (chf (row k)), nup us n (cwf (row k)), bo + chf (row k)), some (0, bo)) := by
        unfold lay1; dsimp only; rw [if_neg hlt, if_pos hfit]
      rw [e1] at unf keep
      refine k_put H hcN q (CA_fr Cu f4) hrk (Nat.lt_succ_self n) (by omega) S4 ?_
      intro u5 f5 e21 e22 S5
      rw [nup_eq] at e21 e22 S5
      rw [ecw, Nat.zero_add] at S5
      have enn : nup (nup us n 0) n (cwf (row k)) = nup us n (cwf (row k)) := by
        funext j
        unfold nup
        by_cases ej : j = n
        · rw [if_pos ej, if_pos ej]
        · rw [if_neg ej, if_neg ej, if_neg ej]
      rw [enn] at S5
      rw [f4.1 21 (by decide)] at e21
      rw [f4.1 22 (by decide)] at e22
      exact unf u5 (fr_trans (fr_mono f4 (by decide) (by decide)) (fr_mono f5 (by decide) (by decide))) S5 (keep u5 _ _ e21 e22 rfl rfl)
end
