/-! OWN ROWS: the sheet, as such and in the class. -/
abbrev sS : Type := Nat × (Nat → Nat) × (Nat → Nat) × (Nat → Nat) × Nat
def nup (f : Nat → Nat) (k x : Nat) : Nat → Nat := fun j => if j = k then x else f j
theorem nup_eq (f : Nat → Nat) (k x : Nat) : nup f k x k = x := if_pos rfl
theorem nup_ne (f : Nat → Nat) {j k : Nat} (x : Nat) (h : j ≠ k) : nup f k x j = f j := if_neg h
/-- the first row from r on, of d, that has room -/
def fnd (W : Nat) (us hg : Nat → Nat) (cw ch : Nat) : Nat → Nat → Nat
  | 0 => fun r => r
  | d + 1 => fun r => if us r + cw ≤ W ∧ ch ≤ hg r then r else fnd W us hg cw ch d (r + 1)
theorem fnd_s (W : Nat) (us hg : Nat → Nat) (cw ch d r : Nat) : fnd W us hg cw ch (d + 1) r = if us r + cw ≤ W ∧ ch ≤ hg r then r else fnd W us hg cw ch d (r + 1) := rfl
theorem fnd_le (W : Nat) (us hg : Nat → Nat) (cw ch : Nat) : ∀ d r, fnd W us hg cw ch d r ≤ r + d := by
  intro d
  induction d with
  | zero => intro r; exact Nat.le_refl _
  | succ d ih =>
    intro r
    unfold fnd
    split
    · omega
    · have := ih (r + 1); omega
theorem fnd_ok (W : Nat) (us hg : Nat → Nat) (cw ch : Nat) : ∀ d r, fnd W us hg cw ch d r < r + d → us (fnd W us hg cw ch d r) + cw ≤ W ∧ ch ≤ hg (fnd W us hg cw ch d r) := by
  intro d
  induction d with
  | zero => intro r hr; exact absurd hr (Nat.lt_irrefl _)
  | succ d ih =>
    intro r
    unfold fnd
    split
    · intro _; assumption
    · intro hr; exact ih (r + 1) (by omega)
/-- rows, their tops, heights, what is used of them; where the last one ends -/
def lay1 (W Hh : Nat) (s : sS) (cw ch : Nat) : sS × Option (Nat × Nat) :=
  if fnd W s.2.2.2.1 s.2.2.1 cw ch s.1 0 < s.1 then ((s.1, s.2.1, s.2.2.1, nup s.2.2.2.1 (fnd W s.2.2.2.1 s.2.2.1 cw ch s.1 0) (s.2.2.2.1 (fnd W s.2.2.2.1 s.2.2.1 cw ch s.1 0) + cw), s.2.2.2.2), some (s.2.2.2.1 (fnd W s.2.2.2.1 s.2.2.1 cw ch s.1 0), s.2.1 (fnd W s.2.2.2.1 s.2.2.1 cw ch s.1 0)))
  else if cw ≤ W ∧ s.2.2.2.2 + ch ≤ Hh then ((s.1 + 1, nup s.2.1 s.1 s.2.2.2.2, nup s.2.2.1 s.1 ch, nup s.2.2.2.1 s.1 cw, s.2.2.2.2 + ch), some (0, s.2.2.2.2))
  else (s, none)
def LI (W Hh : Nat) (s : sS) : Prop := s.1 ≤ s.2.2.2.2 ∧ s.2.2.2.2 ≤ Hh ∧ (s.1 = 0 → s.2.2.2.2 = 0) ∧ (0 < s.1 → s.2.1 (s.1 - 1) + s.2.2.1 (s.1 - 1) = s.2.2.2.2) ∧ ∀ r, r < s.1 → s.2.2.2.1 r ≤ W ∧ s.2.1 r ≤ Hh ∧ s.2.2.1 r ≤ Hh
theorem LI_0 (W Hh : Nat) : LI W Hh (0, fun _ => 0, fun _ => 0, fun _ => 0, 0) := ⟨Nat.zero_le _, Nat.zero_le _, fun _ => rfl, fun q => absurd q (by decide), fun r hr => absurd hr (Nat.not_lt_zero r)⟩
theorem LI_lay {W Hh cw ch : Nat} {s : sS} (h : LI W Hh s) (hch : 0 < ch) : LI W Hh (lay1 W Hh s cw ch).1 := by
  obtain ⟨n, tp, hg, us, bo⟩ := s
  obtain ⟨h1, h2, h3, h4, h5⟩ := h
  unfold lay1
  have hok := fnd_ok W us hg cw ch n 0
  dsimp only at *
  split
  · rename_i hlt
    refine ⟨h1, h2, h3, h4, fun r hr => ?_⟩
    dsimp only
    by_cases e : r = fnd W us hg cw ch n 0
    · rw [e, nup_eq]
      exact ⟨(hok (by omega)).1, (h5 _ hlt).2⟩
    · rw [nup_ne _ _ e]; exact h5 r hr
  · split
    · rename_i hfit
      refine ⟨by dsimp only; omega, by dsimp only; omega, fun q => absurd q (by simp), fun _ => ?_, fun r hr => ?_⟩
      · dsimp only
        rw [Nat.add_sub_cancel, nup_eq, nup_eq]
      · dsimp only at hr ⊢
        by_cases e : r = n
        · rw [e, nup_eq, nup_eq, nup_eq]; omega
        · rw [nup_ne _ _ e, nup_ne _ _ e, nup_ne _ _ e]; exact h5 r (by omega)
    · exact ⟨h1, h2, h3, h4, h5⟩
theorem lay_n {W Hh cw ch : Nat} {s : sS} : (lay1 W Hh s cw ch).1.1 ≤ s.1 + 1 := by
  unfold lay1
  split
  · exact Nat.le_succ _
  · split
    · exact Nat.le_refl _
    · exact Nat.le_succ _
def layK (W Hh : Nat) (cwf chf row : Nat → Nat) : Nat → sS
  | 0 => (0, fun _ => 0, fun _ => 0, fun _ => 0, 0)
  | k + 1 => (lay1 W Hh (layK W Hh cwf chf row k) (cwf (row k)) (chf (row k))).1
def layR (W Hh : Nat) (cwf chf row : Nat → Nat) (k : Nat) : Option (Nat × Nat) := (lay1 W Hh (layK W Hh cwf chf row k) (cwf (row k)) (chf (row k))).2
def rx (o : Option (Nat × Nat)) : Int32 := match o with
  | some q => nI q.1
  | none => -1
def ry (o : Option (Nat × Nat)) : Int32 := match o with
  | some q => nI q.2
  | none => -1
theorem layK_LI {W Hh : Nat} {cwf chf row : Nat → Nat} (hch : ∀ p, 0 < chf p) : ∀ k, LI W Hh (layK W Hh cwf chf row k) ∧ (layK W Hh cwf chf row k).1 ≤ k := by
  intro k
  induction k with
  | zero => exact ⟨LI_0 W Hh, Nat.le_refl _⟩
  | succ k ih =>
    refine ⟨LI_lay ih.1 (hch _), ?_⟩
    have := lay_n (W := W) (Hh := Hh) (cw := cwf (row k)) (ch := chf (row k)) (s := layK W Hh cwf chf row k)
    have e : (layK W Hh cwf chf row (k + 1)).1 = (lay1 W Hh (layK W Hh cwf chf row k) (cwf (row k)) (chf (row k))).1.1 := rfl
    rw [e]; omega
/-- the class's sheet is s -/
def SC (u : pS) (s : sS) : Prop := u.1 8 = nI s.1 ∧ u.1 9 = nI s.2.2.2.2 ∧ ∀ r, r < s.1 → u.2 23 r = nI (s.2.1 r) ∧ u.2 24 r = nI (s.2.2.1 r) ∧ u.2 25 r = nI (s.2.2.2.1 r)
section
variable {w h K : Nat} {G : pG} {u : pS}
theorem k_rowFor (H : GI w h K G) {W Hh cw ch n bo : Nat} {tp hg us : Nat → Nat} (hW : W ≤ 100) (hH : Hh ≤ 100) (hcw : cw ≤ 20) (hch : 0 < ch ∧ ch ≤ 20) (hn : n < w * h) (S : SC u (n, tp, hg, us, bo)) (L : LI W Hh (n, tp, hg, us, bo)) {Q : Int32 → pS → Prop}
    (q1 : fnd W us hg cw ch n 0 < n → Q (nI (fnd W us hg cw ch n 0)) u) (q2 : ¬ fnd W us hg cw ch n 0 < n → ¬ (cw ≤ W ∧ bo + ch ≤ Hh) → Q (-1) u)
    (q3 : ¬ fnd W us hg cw ch n 0 < n → (cw ≤ W ∧ bo + ch ≤ Hh) → ∀ u', fr [23, 24, 25] [8, 9] u u' → SC u' (n + 1, nup tp n bo, nup hg n ch, nup us n 0, bo + ch) → Q (nI n) u') :
    ∃ m, lp_Sheet_rowFor_23 G Q m (nI W) (nI Hh) (nI cw) (nI ch) 0 u := by
  have B := gB H
  obtain ⟨s8, s9, sr⟩ := id S
  obtain ⟨l1, l2, l3, l4, l5⟩ := id L
  dsimp only at s8 s9 sr l1 l2 l3 l4 l5
  suffices hl : ∀ (d r : Nat), r + d = n → fnd W us hg cw ch n 0 = fnd W us hg cw ch d r → lp_Sheet_rowFor_23 G Q (d + 1) (nI W) (nI Hh) (nI cw) (nI ch) (nI r) u from
    ⟨n + 1, by rw [li_0]; exact hl n 0 (by omega) rfl⟩
  intro d
  induction d with
  | zero =>
    intro r hd hf
    have e : r = n := by omega
    have hf2 : ¬ fnd W us hg cw ch n 0 < n := by
      rw [hf]
      show ¬ r < n
      omega
    unfold lp_Sheet_rowFor_23
    rw [s8, s9, nI_add]
    refine b_t (nI_le (by omega) (by omega)) ?_
    by_cases e1 : W < cw
    · exact b_t (nI_lt e1 (by omega)) (q2 hf2 (by omega))
    · refine b_f (nI_nlt (by omega) (by omega)) ?_
      by_cases e2 : Hh < bo + ch
      · exact b_t (nI_lt e2 (by omega)) (q2 hf2 (by omega))
      · refine b_f (nI_nlt (by omega) (by omega)) ?_
        unfold wp_Sheet_newRow
        rw [gl_37 H, gl_38 H, gl_39 H]
        simp only [forall_eq]
        simp only [sa_i, si_a, s8, s9]
        rw [nI_clamp (n := n) (by omega)]
        refine b_t (nI_lt hn (by omega)) ⟨vp_in_nI hn (by omega), vp_in_nI hn (by omega), vp_in_nI hn (by omega), ?_⟩
        have q := q3 hf2 (by omega)
        generalize hu' : pw_si (pw_si (pw_sa (pw_sa (pw_sa u 23 (upd (u.2 23) n (nI bo))) 24 (upd ((pw_sa u 23 (upd (u.2 23) n (nI bo))).2 24) n (nI ch))) 25 (upd ((pw_sa (pw_sa u 23 (upd (u.2 23) n (nI bo))) 24 (upd ((pw_sa u 23 (upd (u.2 23) n (nI bo))).2 24) n (nI ch))).2 25) n 0)) 9 (nI bo + nI ch)) 8 ((pw_si (pw_sa (pw_sa (pw_sa u 23 (upd (u.2 23) n (nI bo))) 24 (upd ((pw_sa u 23 (upd (u.2 23) n (nI bo))).2 24) n (nI ch))) 25 (upd ((pw_sa (pw_sa u 23 (upd (u.2 23) n (nI bo))) 24 (upd ((pw_sa u 23 (upd (u.2 23) n (nI bo))).2 24) n (nI ch))).2 25) n 0)) 9 (nI bo + nI ch)).1 8 + 1) = u'
        have e8 : u'.1 8 = nI (n + 1) := by
          rw [← hu', si_eq, si_ne _ _ (by decide), sa_i, sa_i, sa_i, s8, nI_1]
        rw [e8, nI_pred]
        refine q u' ?_ ⟨e8, ?_, fun r hr => ?_⟩
        · rw [← hu']
          exact fr_si _ (by decide) (fr_si _ (by decide) (fr_sa _ (by decide) (fr_sa _ (by decide) (fr_sa _ (by decide) (fr_refl _ _ _)))))
        · rw [← hu', si_ne _ _ (by decide), si_eq, nI_add]
        · dsimp only at hr ⊢
          rw [← hu']
          simp (disch := decide) only [si_a, sa_eq, sa_ne]
          by_cases er : r = n
          · rw [er, upd_eq, upd_eq, upd_eq, nup_eq, nup_eq, nup_eq]
            exact ⟨rfl, rfl, li_0⟩
          · rw [upd_ne _ _ er, upd_ne _ _ er, upd_ne _ _ er, nup_ne _ _ er, nup_ne _ _ er, nup_ne _ _ er]
            exact sr r (by omega)
  | succ d ih =>
    intro r hd hf
    have hr := sr r (by omega)
    have hb := l5 r (by omega)
    unfold lp_Sheet_rowFor_23
    rw [s8, gl_38 H, gl_39 H, nI_clamp (n := r) (by omega), hr.2.1, hr.2.2, nI_add]
    simp only [forall_eq, nI_1]
    refine b_f (nI_ge (by omega) (by omega)) ⟨vp_in_nI (by omega) (by omega), ?_⟩
    rw [fnd_s] at hf
    by_cases e : us r + cw ≤ W ∧ ch ≤ hg r
    · rw [if_pos e] at hf
      refine b_f (nI_nlt (by omega) (by omega)) ⟨vp_in_nI (by omega) (by omega), b_f (nI_nlt (by omega) (by omega)) ?_⟩
      have := q1
      rw [show fnd W us hg cw ch n 0 = r from hf] at this
      exact this (by omega)
    · rw [if_neg e] at hf
      by_cases e1 : W < us r + cw
      · exact b_t (nI_lt e1 (by omega)) (ih (r + 1) (by omega) hf)
      · exact b_f (nI_nlt (by omega) (by omega)) ⟨vp_in_nI (by omega) (by omega), b_t (nI_lt (by omega) (by omega)) (ih (r + 1) (by omega) hf)⟩
end
