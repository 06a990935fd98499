/-! OWN ROWS: the reference's extents and orders. -/
def vl (w wh j : Nat) : Nat := if wh % 2 = 0 then j % w else j / w
theorem bef_L {w h : Nat} {lx mx ly my s : Nat → Nat} {a b : Nat} : bef (ltL w h lx mx ly my s) a b = true ↔ ((edg w h lx mx ly my a = edg w h lx mx ly my b ∧ (s b < s a ∨ (s a = s b ∧ a < b))) ∨ (edg w h lx mx ly my a ≠ edg w h lx mx ly my b ∧ edg w h lx mx ly my b = true)) := by
  unfold bef ltL
  generalize edg w h lx mx ly my a = ea
  generalize edg w h lx mx ly my b = eb
  cases ea <;> cases eb <;> simp <;> omega
section
variable {w h K : Nat} {G : pG} {f : Nat → Int32} {fo F : Nat → Nat} {c : Nat} {lx mx ly my : Nat → Nat} {v : pS} {p : Nat}
theorem m_e15 (M : MI w h K G) (P : PS w h f fo F c) (C : MPw (w * h) fo v) (hp : p < c) {wh k : Nat} (hwh : wh < 4) (hk : k < w * h) {n : Nat} {x : Int32} {Q : Int32 → pS → Prop}
    (h1 : fo k = F p → jn_Model_end_68 G Q (lp_Model_end_15 G Q n) (nI p) (nI wh) x (nI k) (nI (vl w wh k)) v) (h2 : ¬ fo k = F p → lp_Model_end_15 G Q n (nI p) (nI wh) x (nI (k + 1)) v) : lp_Model_end_15 G Q (n + 1) (nI p) (nI wh) x (nI k) v := by
  have B := mB M
  have hcN := PS_c P
  have hF := Enu_F P.2.1 hp
  have hfk := fo_le P.1 hk
  have hw0 : ¬ nI w = 0 := nI_ne0 (by omega) (by omega)
  unfold lp_Model_end_15
  rw [mp_0 M, mp_1 M, nI_mul, ml_4 M, ml_5 M, nI_clamp (n := k) (by omega), nI_clamp (n := p) (by omega), C.1 k hk, (MP_at C P.2.1 hp).1, li_2, nI_mod (a := wh) (by omega) (by omega), nI_mod (a := k) (by omega) (by omega), nI_div (a := k) (by omega) (by omega)]
  simp only [forall_eq]
  rw [nI_1, nI_eq (by omega) (by omega)]
  refine b_f (nI_ge (by omega) (by omega)) ⟨vp_in_nI (by omega) (by omega), vp_in_nI (by omega) (by omega), ?_⟩
  by_cases e : fo k = F p
  · rw [bt e]
    have h1' := h1 e
    unfold vl at h1'
    by_cases e2 : wh % 2 = 0
    · rw [if_pos e2] at h1'
      exact b_t (by rw [e2, li_0]) ⟨hw0, h1'⟩
    · rw [if_neg e2] at h1'
      exact b_f (by rw [li_0]; intro q; exact e2 ((nI_eq (by omega) (by omega)).mp q)) ⟨hw0, h1'⟩
  · rw [bf e]; exact h2 e
theorem vl_lt {wh k : Nat} (hk : k < w * h) (B : w ≤ 20 ∧ h ≤ 20) : vl w wh k < 20 := by
  have h1 := gr_x hk
  have h2 := gr_y hk
  unfold vl
  split <;> omega
theorem m_emin (M : MI w h K G) (P : PS w h f fo F c) (C : MPw (w * h) fo v) (hp : p < c) {wh e : Nat} (hwh : wh < 2) (he : IsMn (Sp (w * h) fo (F p)) (fun j => vl w wh j) e) {Q : Int32 → pS → Prop} (hQ : Q (nI e) v) : wp_Model_end G (nI p) (nI wh) v Q := by
  have B := mB M
  have hF := Enu_F P.2.1 hp
  unfold wp_Model_end
  refine b_f (by rw [li_2]; exact nI_ge hwh (by omega)) ?_
  suffices hl : ∀ (d k t : Nat), k + d = w * h → t ≤ 100 → (∀ j, j < k → fo j = F p → t ≤ vl w wh j) → (t = 100 ∨ ∃ j, j < k ∧ fo j = F p ∧ vl w wh j = t) → lp_Model_end_15 G Q (d + 1) (nI p) (nI wh) (nI t) (nI k) v from
    ⟨w * h + 1, by rw [li_0, li_100]; exact hl (w * h) 0 100 (by omega) (by omega) (fun j hj => absurd hj (Nat.not_lt_zero j)) (Or.inl rfl)⟩
  intro d
  induction d with
  | zero =>
    intro k t hd ht h1 h2
    have ek : k = w * h := by omega
    unfold lp_Model_end_15
    refine b_t (by rw [mp_0 M, mp_1 M, nI_mul]; exact nI_le (by omega) (by omega)) ?_
    have hx := vl_lt (w := w) (h := h) (wh := wh) hF.1 ⟨B.2.1, B.2.2.2.1⟩
    have hy := h1 (F p) (by omega) hF.2.1
    have : t = e := by
      refine IsMn_u (S := Sp (w * h) fo (F p)) (f := fun j => vl w wh j) ⟨?_, fun j hj => h1 j (by rw [ek]; exact hj.1) hj.2⟩ he
      rcases h2 with h2 | ⟨j, j1, j2, j3⟩
      · omega
      · exact ⟨j, ⟨by omega, j2⟩, j3⟩
    rw [this]; exact hQ
  | succ d ih =>
    intro k t hd ht h1 h2
    have hx := vl_lt (w := w) (h := h) (wh := wh) (k := k) (by omega) ⟨B.2.1, B.2.2.2.1⟩
    refine m_e15 M P C hp (by omega) (by omega) (fun e => ?_) (fun e => ?_)
    · unfold jn_Model_end_68
      refine b_f (by rw [li_2]; exact nI_ge hwh (by omega)) ?_
      simp only [forall_eq]
      rw [nI_1]
      by_cases e2 : t ≤ vl w wh k
      · refine b_t (nI_le e2 (by omega)) (ih (k + 1) t (by omega) ht (fun j hj hf => ?_) ?_)
        · by_cases e3 : j = k
          · rw [e3]; exact e2
          · exact h1 j (by omega) hf
        · rcases h2 with h2 | ⟨j, j1, j2, j3⟩
          · exact Or.inl h2
          · exact Or.inr ⟨j, by omega, j2, j3⟩
      · refine b_f (nI_ge (by omega) (by omega)) (ih (k + 1) _ (by omega) (by omega) (fun j hj hf => ?_) (Or.inr ⟨k, by omega, e, rfl⟩))
        by_cases e3 : j = k
        · rw [e3]; exact Nat.le_refl _
        · have := h1 j (by omega) hf; omega
    · refine ih (k + 1) t (by omega) ht (fun j hj hf => ?_) ?_
      · exact h1 j (by
          have : j ≠ k := fun q => e (by rw [← q]; exact hf)
          omega) hf
      · rcases h2 with h2 | ⟨j, j1, j2, j3⟩
        · exact Or.inl h2
        · exact Or.inr ⟨j, by omega, j2, j3⟩
theorem m_emax (M : MI w h K G) (P : PS w h f fo F c) (C : MPw (w * h) fo v) (hp : p < c) {wh e : Nat} (hw2 : 2 ≤ wh) (hwh : wh < 4) (he : IsMx (Sp (w * h) fo (F p)) (fun j => vl w wh j) e) {Q : Int32 → pS → Prop} (hQ : Q (nI e) v) : wp_Model_end G (nI p) (nI wh) v Q := by
  have B := mB M
  have hF := Enu_F P.2.1 hp
  unfold wp_Model_end
  refine b_t (by rw [li_2]; exact nI_le hw2 (by omega)) ?_
  suffices hl : ∀ (d k : Nat) (t : Int), k + d = w * h → -1 ≤ t → t ≤ 100 → (∀ j, j < k → fo j = F p → (vl w wh j : Int) ≤ t) → (t = -1 ∨ ∃ j, j < k ∧ fo j = F p ∧ (vl w wh j : Int) = t) → lp_Model_end_15 G Q (d + 1) (nI p) (nI wh) (zI t) (nI k) v from
    ⟨w * h + 1, by rw [li_0, lz_m1]; exact hl (w * h) 0 (-1) (by omega) (by omega) (by omega) (fun j hj => absurd hj (Nat.not_lt_zero j)) (Or.inl rfl)⟩
  intro d
  induction d with
  | zero =>
    intro k t hd ht ht2 h1 h2
    have ek : k = w * h := by omega
    unfold lp_Model_end_15
    refine b_t (by rw [mp_0 M, mp_1 M, nI_mul]; exact nI_le (by omega) (by omega)) ?_
    have hy := h1 (F p) (by omega) hF.2.1
    obtain ⟨t', rfl⟩ := Int.eq_ofNat_of_zero_le (show 0 ≤ t by omega)
    have : t' = e := by
      refine IsMx_u (S := Sp (w * h) fo (F p)) (f := fun j => vl w wh j) ⟨?_, fun j hj => ?_⟩ he
      · rcases h2 with h2 | ⟨j, j1, j2, j3⟩
        · omega
        · exact ⟨j, ⟨by omega, j2⟩, by dsimp only; omega⟩
      · have := h1 j (by rw [ek]; exact hj.1) hj.2
        dsimp only; omega
    rw [← nI_z, this]; exact hQ
  | succ d ih =>
    intro k t hd ht ht2 h1 h2
    have hx := vl_lt (w := w) (h := h) (wh := wh) (k := k) (by omega) ⟨B.2.1, B.2.2.2.1⟩
    refine m_e15 M P C hp (by omega) (by omega) (fun e => ?_) (fun e => ?_)
    · unfold jn_Model_end_68
      refine b_t (by rw [li_2]; exact nI_le hw2 (by omega)) ?_
      simp only [forall_eq]
      rw [nI_1, nI_z (vl w wh k)]
      by_cases e2 : (vl w wh k : Int) ≤ t
      · refine b_t ((zI_le (by omega) (by omega) (by omega) (by omega)).mpr e2) (ih (k + 1) t (by omega) ht ht2 (fun j hj hf => ?_) ?_)
        · by_cases e3 : j = k
          · rw [e3]; exact e2
          · exact h1 j (by omega) hf
        · rcases h2 with h2 | ⟨j, j1, j2, j3⟩
          · exact Or.inl h2
          · exact Or.inr ⟨j, by omega, j2, j3⟩
      · refine b_f (fun q => e2 ((zI_le (by omega) (by omega) (by omega) (by omega)).mp q)) (ih (k + 1) _ (by omega) (by omega) (by omega) (fun j hj hf => ?_) (Or.inr ⟨k, by omega, e, rfl⟩))
        by_cases e3 : j = k
        · rw [e3]; exact Int.le_refl _
        · have := h1 j (by omega) hf; omega
    · refine ih (k + 1) t (by omega) ht ht2 (fun j hj hf => ?_) ?_
      · exact h1 j (by
          have : j ≠ k := fun q => e (by rw [← q]; exact hf)
          omega) hf
      · rcases h2 with h2 | ⟨j, j1, j2, j3⟩
        · exact Or.inl h2
        · exact Or.inr ⟨j, by omega, j2, j3⟩
theorem m_end0 (M : MI w h K G) (P : PS w h f fo F c) (C : MPw (w * h) fo v) (q : CQ w h fo F c lx mx ly my) (hp : p < c) {Q : Int32 → pS → Prop} (hQ : Q (nI (lx p)) v) : wp_Model_end G (nI p) 0 v Q := by
  rw [li_0]; exact m_emin (wh := 0) M P C hp (by omega) (q p hp).1 hQ
theorem m_end1 (M : MI w h K G) (P : PS w h f fo F c) (C : MPw (w * h) fo v) (q : CQ w h fo F c lx mx ly my) (hp : p < c) {Q : Int32 → pS → Prop} (hQ : Q (nI (ly p)) v) : wp_Model_end G (nI p) 1 v Q := by
  rw [li_1]; exact m_emin (wh := 1) M P C hp (by omega) (q p hp).2.2.1 hQ
theorem m_end2 (M : MI w h K G) (P : PS w h f fo F c) (C : MPw (w * h) fo v) (q : CQ w h fo F c lx mx ly my) (hp : p < c) {Q : Int32 → pS → Prop} (hQ : Q (nI (mx p)) v) : wp_Model_end G (nI p) 2 v Q := by
  rw [li_2]; exact m_emax (wh := 2) M P C hp (by omega) (by omega) (q p hp).2.1 hQ
theorem m_end3 (M : MI w h K G) (P : PS w h f fo F c) (C : MPw (w * h) fo v) (q : CQ w h fo F c lx mx ly my) (hp : p < c) {Q : Int32 → pS → Prop} (hQ : Q (nI (my p)) v) : wp_Model_end G (nI p) 3 v Q := by
  rw [li_3]; exact m_emax (wh := 3) M P C hp (by omega) (by omega) (q p hp).2.2.2 hQ
theorem m_edge (M : MI w h K G) (P : PS w h f fo F c) (C : MPw (w * h) fo v) (q : CQ w h fo F c lx mx ly my) (hp : p < c) {Q : Int32 → pS → Prop} (hQ : Q (bI (edg w h lx mx ly my p)) v) : wp_Model_isAtEdge G (nI p) v Q := by
  have B := mB M
  have b := CQ_b q hp
  have n0 : ∀ x : Nat, x < 400 → (nI x = 0 ↔ x = 0) := fun x hx => by rw [li_0]; exact nI_eq (by omega) (by omega)
  unfold wp_Model_isAtEdge
  refine m_end0 M P C q hp ?_
  rw [n0 _ (by omega)]
  by_cases e1 : lx p = 0
  · refine b_t e1 ?_
    have : edg w h lx mx ly my p = true := by unfold edg; simp [e1]
    rw [this] at hQ; exact hQ
  · refine b_f e1 (m_end1 M P C q hp ?_)
    rw [n0 _ (by omega)]
    by_cases e2 : ly p = 0
    · refine b_t e2 ?_
      have : edg w h lx mx ly my p = true := by unfold edg; simp [e2]
      rw [this] at hQ; exact hQ
    · refine b_f e2 (m_end2 M P C q hp ?_)
      rw [mp_0 M, li_1, nI_sub (a := w) (by omega), nI_eq (by omega) (by omega), ← li_1]
      by_cases e3 : mx p = w - 1
      · refine b_t e3 ?_
        have : edg w h lx mx ly my p = true := by unfold edg; simp [e3]
        rw [this] at hQ; exact hQ
      · refine b_f e3 (m_end3 M P C q hp ?_)
        rw [mp_1 M, li_1, nI_sub (a := h) (by omega), nI_eq (by omega) (by omega), ← li_1]
        by_cases e4 : my p = h - 1
        · refine b_t e4 ?_
          have : edg w h lx mx ly my p = true := by unfold edg; simp [e4]
          rw [this] at hQ; exact hQ
        · refine b_f e4 ?_
          have : edg w h lx mx ly my p = false := by unfold edg; simp [e1, e2, e3, e4]
          rw [this] at hQ; exact hQ
theorem nar_b (b : Bool) : narrow .boolean (.int (bI b)) = .int (bI b) := by cases b <;> rfl
theorem m_before (M : MI w h K G) (P : PS w h f fo F c) (C : MPw (w * h) fo v) (q : CQ w h fo F c lx mx ly my) {a b : Nat} (ha : a < c) (hb : b < c) {Q : Int32 → pS → Prop} (hQ : Q (bI (bef (ltL w h lx mx ly my (fun p => sz fo (w * h) (F p))) a b)) v) : wp_Model_comesBefore G (nI a) (nI b) v Q := by
  have B := mB M
  have hcN := PS_c P
  have ma := MP_at C P.2.1 ha
  have mb := MP_at C P.2.1 hb
  have hFa := Enu_F P.2.1 ha
  have hFb := Enu_F P.2.1 hb
  have za := sz_le fo (w * h) (F a)
  have zb := sz_le fo (w * h) (F b)
  unfold wp_Model_comesBefore
  refine m_edge M P C q ha (m_edge M P C q hb ?_)
  have hL := bef_L (w := w) (h := h) (lx := lx) (mx := mx) (ly := ly) (my := my) (s := fun p => sz fo (w * h) (F p)) (a := a) (b := b)
  have ht : bef (ltL w h lx mx ly my (fun p => sz fo (w * h) (F p))) a b = true → Q 1 v := fun e => by rw [e] at hQ; exact hQ
  have hf : ¬ bef (ltL w h lx mx ly my (fun p => sz fo (w * h) (F p))) a b = true → Q 0 v := fun e => by
    have : bef (ltL w h lx mx ly my (fun p => sz fo (w * h) (F p))) a b = false := by simpa using e
    rw [this] at hQ; exact hQ
  simp only [forall_eq, ml_5 M, ml_6 M]
  rw [nI_clamp (n := a) (by omega), nI_clamp (n := b) (by omega), ma.1, mb.1, nI_clamp (n := F a) (by omega), nI_clamp (n := F b) (by omega), ma.2, mb.2, nI_eq (by omega) (by omega), nI_leI (by omega) (by omega), nI_leI (by omega) (by omega)]
  by_cases e : edg w h lx mx ly my a = edg w h lx mx ly my b
  · refine b_t (by rw [e]) ⟨vp_in_nI (by omega) (by omega), vp_in_nI (by omega) (by omega), vp_in_nI (by omega) (by omega), vp_in_nI (by omega) (by omega), ?_⟩
    have hL2 : bef (ltL w h lx mx ly my (fun p => sz fo (w * h) (F p))) a b = true ↔ (sz fo (w * h) (F b) < sz fo (w * h) (F a) ∨ (sz fo (w * h) (F a) = sz fo (w * h) (F b) ∧ a < b)) := by
      rw [hL]
      constructor
      · rintro (h1 | h1)
        · exact h1.2
        · exact absurd e h1.1
      · intro h1; exact Or.inl ⟨e, h1⟩
    refine ⟨fun e1 => ⟨fun e3 => hf ?_, fun e3 => ht ?_⟩, fun e1 => ⟨fun e3 => hf ?_, fun e3 => ht ?_⟩⟩ <;> rw [hL2] <;> omega
  · have e' : ¬ bI (edg w h lx mx ly my a) = bI (edg w h lx mx ly my b) := by
      intro q2
      cases ea : edg w h lx mx ly my a <;> cases eb : edg w h lx mx ly my b <;> rw [ea, eb] at q2 e
      · exact e rfl
      · exact absurd q2 (by decide)
      · exact absurd q2 (by decide)
      · exact e rfl
    refine b_f e' ⟨nar_b _, ?_⟩
    cases eb : edg w h lx mx ly my b with
    | true => exact ht (hL.mpr (Or.inr ⟨e, eb⟩))
    | false =>
      refine hf (fun q => ?_)
      rcases hL.mp q with h1 | h1
      · exact e h1.1
      · rw [eb] at h1; exact absurd h1.2 (by decide)
theorem m_laid (M : MI w h K G) (P : PS w h f fo F c) (C : MPw (w * h) fo v) (q : CQ w h fo F c lx mx ly my) {a b : Nat} (ha : a < c) (hb : b < c) {Q : Int32 → pS → Prop} (hQ : Q (bI (bef (ltH lx mx ly my) a b)) v) : wp_Model_isLaidBefore G (nI a) (nI b) v Q := by
  have B := mB M
  have hcN := PS_c P
  have ba := CQ_b q ha
  have bb := CQ_b q hb
  unfold wp_Model_isLaidBefore
  refine m_end3 M P C q ha (m_end1 M P C q ha ?_)
  intro t5 ht5
  refine m_end3 M P C q hb (m_end1 M P C q hb ?_)
  intro t10 ht10
  refine m_end2 M P C q ha (m_end0 M P C q ha ?_)
  intro t15 ht15
  refine m_end2 M P C q hb (m_end0 M P C q hb ?_)
  intro t20 ht20
  rw [nI_sub (by omega)] at ht5 ht10 ht15 ht20
  rw [ht5, ht10, ht15, ht20, nI_eq (by omega) (by omega), nI_eq (by omega) (by omega), nI_leI (by omega) (by omega), nI_leI (by omega) (by omega), nI_leI (by omega) (by omega)]
  have hH := bef_H (lx := lx) (mx := mx) (ly := ly) (my := my) (a := a) (b := b)
  generalize my a - ly a = Ha at *
  generalize my b - ly b = Hb at *
  generalize mx a - lx a = Wa at *
  generalize mx b - lx b = Wb at *
  have ht : bef (ltH lx mx ly my) a b = true → Q 1 v := fun e => by rw [e] at hQ; exact hQ
  have hf : ¬ bef (ltH lx mx ly my) a b = true → Q 0 v := fun e => by
    have : bef (ltH lx mx ly my) a b = false := by simpa using e
    rw [this] at hQ; exact hQ
  refine ⟨fun e1 => ⟨fun e2 => ⟨fun e3 => hf ?_, fun e3 => ht ?_⟩, fun e2 => ⟨fun e3 => hf ?_, fun e3 => ht ?_⟩⟩, fun e1 => ⟨fun e3 => hf ?_, fun e3 => ht ?_⟩⟩ <;> rw [hH] <;> omega
end
