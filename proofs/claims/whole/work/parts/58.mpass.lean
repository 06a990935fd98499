/-! OWN ROWS: the reference's passes. -/
def bI (b : Bool) : Int32 := if b = true then 1 else 0
theorem bI_t : bI true = 1 := rfl
theorem bI_f : bI false = 0 := rfl
theorem bI_0 (b : Bool) : bI b = 0 ↔ b = false := by cases b <;> decide
theorem Rg_Cn {w h : Nat} {f : Nat → Int32} {k j m : Nat} (h1 : Rg w h f k j) (h2 : Cn (Rg w h f) j m) : Cn (Rg w h f) k m := Cn_head h1 h2
def mV (w h : Nat) (f : Nat → Int32) (ub u : pS) (L0 L : Nat → Nat) (mo : Bool) (S : Prop) : Prop :=
  fr [3] [] ub u ∧ (∀ j, j < w * h → u.2 3 j = nI (L j) ∧ L j ≤ j) ∧ (∀ j, j < w * h → Cn (Rg w h f) j (L j)) ∧ (mo = false → (∀ j, j < w * h → L j = L0 j) ∧ S) ∧ sm L (w * h) + (if mo = true then 1 else 0) ≤ sm L0 (w * h)
section
variable {w h K : Nat} {G : pG}
theorem mV_step {f : Nat → Int32} {ub u : pS} {L0 L : Nat → Nat} {mo : Bool} {S : Prop} {k m : Nat} (hk : k < w * h) (V : mV w h f ub u L0 L mo S) (h1 : m ≤ L k) (h2 : m = L k ∨ ∃ j, Rg w h f k j ∧ L j = m) (h3 : ∀ j, Rg w h f k j → m ≤ L j) :
    mV w h f ub (pw_sa u 3 (upd (u.2 3) k (nI m))) L0 (fun j => if j = k then m else L j) (mo || decide (m < L k)) (S ∧ ∀ i, Rg w h f k i → L0 k ≤ L0 i) := by
  obtain ⟨v1, v2, v3, v4, v5⟩ := V
  refine ⟨fr_sa _ (by decide) v1, fun j hj => ?_, fun j hj => ?_, fun hmo => ?_, ?_⟩
  · rw [sa_eq]
    dsimp only
    by_cases e : j = k
    · rw [e, upd_eq, if_pos rfl]
      have := v2 k hk
      exact ⟨rfl, by omega⟩
    · rw [upd_ne _ _ e, if_neg e]; exact v2 j hj
  · dsimp only
    by_cases e : j = k
    · rw [e, if_pos rfl]
      rcases h2 with h2 | ⟨i, r1, r2⟩
      · rw [h2]; exact v3 k hk
      · rw [← r2]; exact Cn_head r1 (v3 i r1.2.1)
    · rw [if_neg e]; exact v3 j hj
  · have hm1 : mo = false := by cases mo <;> simp_all
    have hm2 : ¬ m < L k := by intro q; simp [q] at hmo
    obtain ⟨a1, a2⟩ := v4 hm1
    refine ⟨fun j hj => ?_, a2, fun i hi => ?_⟩
    · dsimp only
      by_cases e : j = k
      · rw [if_pos e, e, ← a1 k hk]; omega
      · rw [if_neg e]; exact a1 j hj
    · have := h3 i hi
      rw [← a1 k hk, ← a1 i hi.2.1]; omega
  · have h4 := sm_upd (L := L) (M := fun j => if j = k then m else L j) hk (fun j _ hj => if_neg hj)
    simp only [if_true] at h4
    by_cases e : m < L k
    · simp only [e, decide_true, Bool.or_true, if_true]
      cases mo <;> simp at v5 <;> omega
    · simp only [e, decide_false, Bool.or_false]
      cases mo <;> simp at v5 ⊢ <;> omega
theorem m_br {mo : Bool} {a b : Nat} {P : Int32 → Prop} (hP : P (bI (mo || decide (a < b)))) : ((if a < b then (1 : Int32) else 0) = 0 → ((bI mo = 0 → P 0) ∧ (¬ bI mo = 0 → P 1))) ∧ (¬ (if a < b then (1 : Int32) else 0) = 0 → P 1) := by
  by_cases e : a < b
  · rw [if_pos e]
    simp only [e, decide_true, Bool.or_true] at hP
    exact b_f (by decide) hP
  · rw [if_neg e]
    simp only [e, decide_false, Bool.or_false] at hP
    refine b_t rfl ?_
    cases mo with
    | true => exact b_f (by decide) hP
    | false => exact b_t rfl hP
theorem m_p80 (M : MI w h K G) {f : Nat → Int32} {ub : pS} (hf : ub.2 2 = f) {L0 : Nat → Nat} {S : Prop} {Q : pS → Prop} {k39 : Int32 → Int32 → pS → Prop} (hk : ∀ u L mo, mV w h f ub u L0 L mo S → k39 (nI (w * h)) (bI mo) u) :
    ∀ (d : Nat) (u : pS) (L : Nat → Nat) (mo : Bool), d ≤ w * h → mV w h f ub u L0 L mo S → lp_Model_makePieces_80 G Q k39 (d + 1) (nI (w * h)) (bI mo) (zI ((d : Int) - 1)) u := by
  have B := mB M
  intro d
  induction d with
  | zero =>
    intro u L mo hd V
    unfold lp_Model_makePieces_80
    exact b_t (by decide) (hk u L mo V)
  | succ d ih =>
    intro u L mo hd V
    have e : ((d + 1 : Nat) : Int) - 1 = (d : Int) := by omega
    unfold lp_Model_makePieces_80
    rw [e, ← nI_z]
    refine b_f (nI_pos (by omega)) ?_
    refine m_lower M ((V.1.1 2 (by decide)).trans hf) V.2.1 (by omega) ?_
    intro m q1 q2 q3
    simp only [forall_eq]
    rw [nI_z d, lz_m1, zI_add]
    have V2 := mV_step (by omega) V q1 q2 q3
    exact m_br (P := fun x => lp_Model_makePieces_80 G Q k39 (d + 1) (nI (w * h)) x (zI ((d : Int) + -1)) _) (ih _ _ _ (by omega) ⟨V2.1, V2.2.1, V2.2.2.1, fun q => ⟨(V2.2.2.2.1 q).1, (V2.2.2.2.1 q).2.1⟩, V2.2.2.2.2⟩)
theorem m_p47 (M : MI w h K G) {f : Nat → Int32} {ub : pS} (hf : ub.2 2 = f) {L0 : Nat → Nat} {Q : pS → Prop} {k39 : Int32 → Int32 → pS → Prop} (hk : ∀ u L mo, mV w h f ub u L0 L mo (∀ j, j < w * h → ∀ i, Rg w h f j i → L0 j ≤ L0 i) → k39 (nI (w * h)) (bI mo) u) :
    ∀ (d k : Nat) (u : pS) (L : Nat → Nat) (mo : Bool), k + d = w * h → mV w h f ub u L0 L mo (∀ j, j < k → ∀ i, Rg w h f j i → L0 j ≤ L0 i) → lp_Model_makePieces_47 G Q k39 (d + 1) (nI (w * h)) (bI mo) (nI k) u := by
  have B := mB M
  intro d
  induction d with
  | zero =>
    intro k u L mo hd V
    have e : k = w * h := by omega
    rw [e] at V
    unfold lp_Model_makePieces_47
    refine b_t (by rw [e]; exact nI_le (Nat.le_refl _) (by omega)) ?_
    intro t ht
    rw [ht, nI_z (w * h), lz_1, zI_sub, ← nI_z]
    exact ⟨w * h + 1, m_p80 M hf hk (w * h) u L mo (Nat.le_refl _) V⟩
  | succ d ih =>
    intro k u L mo hd V
    unfold lp_Model_makePieces_47
    refine b_f (nI_ge (by omega) (by omega)) ?_
    refine m_lower M ((V.1.1 2 (by decide)).trans hf) V.2.1 (by omega) ?_
    intro m q1 q2 q3
    simp only [forall_eq]
    rw [nI_1]
    have V2 := mV_step (by omega) V q1 q2 q3
    refine m_br (P := fun x => lp_Model_makePieces_47 G Q k39 (d + 1) (nI (w * h)) x (nI (k + 1)) _) (ih _ _ _ _ (by omega) ⟨V2.1, V2.2.1, V2.2.2.1, fun q => ⟨(V2.2.2.2.1 q).1, fun j hj => ?_⟩, V2.2.2.2.2⟩)
    by_cases e : j = k
    · rw [e]; exact (V2.2.2.2.1 q).2.2
    · exact (V2.2.2.2.1 q).2.1 j (by omega)
theorem m_p118 (M : MI w h K G) {fo : Nat → Nat} {ub : pS} (h3 : ∀ k, k < w * h → ub.2 3 k = nI (fo k) ∧ fo k ≤ k) {Q : pS → Prop} (hQ : ∀ u, fr [4, 5] [1] ub u → MPw (w * h) fo u → Q u) :
    ∀ (d k : Nat) (u : pS), k + d = w * h → fr [4, 5] [1] ub u → u.1 1 = nI (cnt (fx fo) k) → (∀ j, j < k → fo j = j → u.2 4 (cnt (fx fo) j) = nI j) → (∀ j, j < w * h → u.2 5 j = nI (cnt (fun i => fo i == j) k)) → lp_Model_makePieces_118 G Q (d + 1) (nI (w * h)) (nI k) u := by
  have B := mB M
  intro d
  induction d with
  | zero =>
    intro k u hd hfr h1 h4 h5
    have e : k = w * h := by omega
    unfold lp_Model_makePieces_118
    refine b_t (nI_le (by omega) (by omega)) (hQ u hfr ⟨fun j hj => ?_, by rw [h1, e], fun j hj => h4 j (by omega), fun j hj => by rw [h5 j hj, e]⟩)
    rw [hfr.1 3 (by decide)]; exact (h3 j hj).1
  | succ d ih =>
    intro k u hd hfr h1 h4 h5
    have hk : k < w * h := by omega
    have h3k := h3 k hk
    have hu3 : u.2 3 = ub.2 3 := hfr.1 3 (by decide)
    have hc := cnt_le (fx fo) k
    unfold lp_Model_makePieces_118
    rw [nI_clamp (n := k) (by omega), hu3, h3k.1, nI_clamp (n := fo k) (by omega), h5 _ (by omega), nI_1]
    simp only [forall_eq, nI_1, ml_4 M, ml_5 M, ml_6 M]
    refine b_f (nI_ge (by omega) (by omega)) ⟨vp_in_nI (by omega) (by omega), vp_in_nI (by omega) (by omega), vp_in_nI (by omega) (by omega), vp_in_nI (by omega) (by omega), ?_⟩
    have h5' : ∀ j, j < w * h → upd (u.2 5) (fo k) (nI (cnt (fun i => fo i == fo k) k + 1)) j = nI (cnt (fun i => fo i == j) (k + 1)) := by
      intro j hj
      by_cases e : j = fo k
      · rw [e, upd_eq, cnt_s]; simp
      · rw [upd_ne _ _ e, h5 j hj, cnt_s]
        have : (fo k == j) = false := beq_eq_false_iff_ne.mpr (fun q => e q.symm)
        rw [this]; rfl
    rw [show (pw_sa u 5 (upd (u.2 5) (fo k) (nI (cnt (fun i => fo i == fo k) k + 1)))).2 3 = u.2 3 from rfl, hu3, h3k.1, sa_i, h1, nI_clamp (n := cnt (fx fo) k) (by omega)]
    by_cases e : fo k = k
    · have ef : fx fo k = true := fx_t.mpr e
      rw [bt (by rw [e])]
      refine ⟨vp_in_nI (by omega) (by omega), ?_⟩
      refine ih (k + 1) _ (by omega) (fr_si _ (by decide) (fr_sa _ (by decide) (fr_sa _ (by decide) hfr))) ?_ ?_ ?_
      · rw [si_eq, sa_i, sa_i, h1, nI_1, cnt_s, ef]; rfl
      · intro j hj hjf
        rw [si_a, sa_eq, sa_ne _ _ (by decide)]
        by_cases e2 : j = k
        · rw [e2, upd_eq]
        · have := cnt_at (P := fx fo) (show j < k by omega) (fx_t.mpr hjf)
          rw [upd_ne _ _ (by omega)]; exact h4 j (by omega) hjf
      · intro j hj
        rw [si_a, sa_ne _ _ (by decide), sa_eq]; exact h5' j hj
    · have ef : fx fo k = false := fx_f.mpr e
      rw [bf (fun q => e ((nI_eq (by omega) (by omega)).mp q))]
      refine ih (k + 1) _ (by omega) (fr_sa _ (by decide) hfr) ?_ ?_ ?_
      · rw [sa_i, h1, cnt_s, ef]; rfl
      · intro j hj hjf
        rw [sa_ne _ _ (by decide)]
        exact h4 j (by have : j ≠ k := fun q => e (by rw [← q]; exact hjf)
                       omega) hjf
      · intro j hj
        rw [sa_eq]; exact h5' j hj
theorem MPw_congr {N : Nat} {fo fo' : Nat → Nat} {v : pS} (h : MPw N fo v) (e : ∀ k, k < N → fo k = fo' k) : MPw N fo' v := by
  have ex : ∀ k, k < N → fx fo k = fx fo' k := fun k hk => by unfold fx; rw [e k hk]
  have ec : ∀ k, k ≤ N → cnt (fx fo) k = cnt (fx fo') k := fun k hk => cnt_congr (fun j hj => ex j (by omega))
  refine ⟨fun k hk => by rw [← e k hk]; exact h.1 k hk, by rw [← ec N (Nat.le_refl _)]; exact h.2.1, fun k hk q => ?_, fun k hk => ?_⟩
  · rw [← ec k (by omega)]
    exact h.2.2.1 k hk (by rw [e k hk]; exact q)
  · rw [h.2.2.2 k hk, cnt_congr (fun j hj => by rw [e j hj])]
theorem m_makePieces (M : MI w h K G) {u0 : pS} {fo : Nat → Nat} (hfo : IsFo (Rg w h (u0.2 2)) (w * h) fo) {Q : pS → Prop} (hQ : ∀ u, fr [3, 4, 5] [1] u0 u → MPw (w * h) fo u → Q u) : wp_Model_makePieces G u0 Q := by
  have B := mB M
  unfold wp_Model_makePieces
  intro t ht
  rw [mp_0 M, mp_1 M, nI_mul] at ht
  rw [ht]
  have loop : ∀ (m : Nat) (u : pS) (L : Nat → Nat), sm L (w * h) ≤ m → fr [3, 5] [] u0 u → (∀ j, j < w * h → u.2 3 j = nI (L j) ∧ L j ≤ j) → (∀ j, j < w * h → Cn (Rg w h (u0.2 2)) j (L j)) → (∀ j, j < w * h → u.2 5 j = nI 0) → lp_Model_makePieces_39 G Q (m + 2) (nI (w * h)) 1 u := by
    intro m
    induction m with
    | zero =>
      intro u L hm hfr h3 hC h5
      unfold lp_Model_makePieces_39
      refine b_f (by decide) ⟨w * h + 1, ?_⟩
      rw [li_0, ← li_0]
      refine m_p47 M (hfr.1 2 (by decide)) (L0 := L) ?_ (w * h) 0 u L false (by omega) ⟨fr_refl _ _ _, h3, hC, fun _ => ⟨fun _ _ => rfl, fun j hj => absurd hj (Nat.not_lt_zero j)⟩, by simp⟩
      intro u2 L2 mo V
      cases mo with
      | true => have := V.2.2.2.2; simp at this; omega
      | false =>
        unfold lp_Model_makePieces_39
        obtain ⟨v1, v2, v3, v4, v5⟩ := V
        obtain ⟨a1, a2⟩ := v4 rfl
        refine b_t rfl ?_
        intro u4 hu4
        have hIs : IsFo (Rg w h (u0.2 2)) (w * h) L2 := ⟨fun k hk => ⟨(v2 k hk).2, v3 k hk⟩, fun j k r => by
          rw [a1 j r.1, a1 k r.2.1]
          exact Nat.le_antisymm (a2 j r.1 k r) (a2 k r.2.1 j (Rg_symm _ _ r))⟩
        refine ⟨w * h + 1, ?_⟩
        rw [li_0]
        refine m_p118 M (fo := L2) (ub := u4) ?_ ?_ (w * h) 0 u4 (by omega) (fr_refl _ _ _) ?_ (fun j hj => absurd hj (Nat.not_lt_zero j)) ?_
        · intro k hk; rw [hu4, si_a]; exact v2 k hk
        · intro u5 f5 p5
          refine hQ u5 (fr_trans (fr_mono hfr (by decide) (by decide)) (fr_trans (fr_mono v1 (by decide) (by decide)) (fr_trans (v := u4) ?_ (fr_mono f5 (by decide) (by decide))))) (MPw_congr p5 (fun k hk => fo_uniq hIs hfo hk))
          rw [hu4]; exact fr_si _ (by decide) (fr_refl _ _ _)
        · rw [hu4, si_eq]; exact li_0
        · intro j hj; rw [hu4, si_a, v1.1 5 (by decide)]; exact h5 j hj
    | succ m ih =>
      intro u L hm hfr h3 hC h5
      unfold lp_Model_makePieces_39
      refine b_f (by decide) ⟨w * h + 1, ?_⟩
      rw [li_0, ← li_0]
      refine m_p47 M (hfr.1 2 (by decide)) (L0 := L) ?_ (w * h) 0 u L false (by omega) ⟨fr_refl _ _ _, h3, hC, fun _ => ⟨fun _ _ => rfl, fun j hj => absurd hj (Nat.not_lt_zero j)⟩, by simp⟩
      intro u2 L2 mo V
      cases mo with
      | true =>
        obtain ⟨v1, v2, v3, v4, v5⟩ := V
        simp only [if_true] at v5
        refine ih u2 L2 (by omega) (fr_trans hfr (fr_mono v1 (by decide) (by decide))) v2 v3 ?_
        intro j hj; rw [v1.1 5 (by decide)]; exact h5 j hj
      | false =>
        unfold lp_Model_makePieces_39
        obtain ⟨v1, v2, v3, v4, v5⟩ := V
        obtain ⟨a1, a2⟩ := v4 rfl
        refine b_t rfl ?_
        intro u4 hu4
        have hIs : IsFo (Rg w h (u0.2 2)) (w * h) L2 := ⟨fun k hk => ⟨(v2 k hk).2, v3 k hk⟩, fun j k r => by
          rw [a1 j r.1, a1 k r.2.1]
          exact Nat.le_antisymm (a2 j r.1 k r) (a2 k r.2.1 j (Rg_symm _ _ r))⟩
        refine ⟨w * h + 1, ?_⟩
        rw [li_0]
        refine m_p118 M (fo := L2) (ub := u4) ?_ ?_ (w * h) 0 u4 (by omega) (fr_refl _ _ _) ?_ (fun j hj => absurd hj (Nat.not_lt_zero j)) ?_
        · intro k hk; rw [hu4, si_a]; exact v2 k hk
        · intro u5 f5 p5
          refine hQ u5 (fr_trans (fr_mono hfr (by decide) (by decide)) (fr_trans (fr_mono v1 (by decide) (by decide)) (fr_trans (v := u4) ?_ (fr_mono f5 (by decide) (by decide))))) (MPw_congr p5 (fun k hk => fo_uniq hIs hfo hk))
          rw [hu4]; exact fr_si _ (by decide) (fr_refl _ _ _)
        · rw [hu4, si_eq]; exact li_0
        · intro j hj; rw [hu4, si_a, v1.1 5 (by decide)]; exact h5 j hj
  suffices hs : ∀ (d i : Nat) (u : pS), i + d = w * h → fr [3, 5] [] u0 u → (∀ j, j < i → u.2 3 j = nI j ∧ u.2 5 j = nI 0) → lp_Model_makePieces_12 G Q (d + 1) (nI (w * h)) (nI i) u from
    ⟨w * h + 1, by rw [li_0]; exact hs (w * h) 0 u0 (by omega) (fr_refl _ _ _) (fun j hj => absurd hj (Nat.not_lt_zero j))⟩
  intro d
  induction d with
  | zero =>
    intro i u hd hfr h3
    unfold lp_Model_makePieces_12
    refine b_t (nI_le (by omega) (by omega)) ⟨sm (fun j => j) (w * h) + 2, loop _ u (fun j => j) (Nat.le_refl _) hfr (fun j hj => ⟨(h3 j (by omega)).1, Nat.le_refl _⟩) (fun j _ => Cn_refl _ j) (fun j hj => (h3 j (by omega)).2)⟩
  | succ d ih =>
    intro i u hd hfr h3
    unfold lp_Model_makePieces_12
    rw [nI_clamp (n := i) (by omega)]
    simp only [forall_eq, nI_1, ml_4 M, ml_6 M]
    refine b_f (nI_ge (by omega) (by omega)) ⟨vp_in_nI (by omega) (by omega), vp_in_nI (by omega) (by omega), ?_⟩
    refine ih (i + 1) _ (by omega) (fr_sa _ (by decide) (fr_sa _ (by decide) hfr)) ?_
    intro j hj
    simp (disch := decide) only [sa_eq, sa_ne]
    by_cases e : j = i
    · rw [e, upd_eq, upd_eq]; exact ⟨rfl, li_0⟩
    · rw [upd_ne _ _ e, upd_ne _ _ e]; exact h3 j (by omega)
end
