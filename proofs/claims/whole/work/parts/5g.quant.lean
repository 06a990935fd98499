/-! OWN ROWS: the pieces' extents and orders, in class and reference. -/
def Sp (N : Nat) (fo : Nat → Nat) (k j : Nat) : Prop := j < N ∧ fo j = k
def CQ (w h : Nat) (fo F : Nat → Nat) (c : Nat) (lx mx ly my : Nat → Nat) : Prop := ∀ p, p < c → IsMn (Sp (w * h) fo (F p)) (fun j => j % w) (lx p) ∧ IsMx (Sp (w * h) fo (F p)) (fun j => j % w) (mx p) ∧ IsMn (Sp (w * h) fo (F p)) (fun j => j / w) (ly p) ∧ IsMx (Sp (w * h) fo (F p)) (fun j => j / w) (my p)
def CA (w h : Nat) (fo F : Nat → Nat) (c : Nat) (lx mx ly my : Nat → Nat) (u : pS) : Prop := ∀ p, p < c → u.2 10 p = nI (F p) ∧ u.2 11 p = nI (sz fo (w * h) (F p)) ∧ u.2 12 p = nI (lx p) ∧ u.2 13 p = nI (mx p) ∧ u.2 14 p = nI (my p) ∧ F p / w = ly p
theorem CQ_ex {w h : Nat} {f : Nat → Int32} {fo F : Nat → Nat} {c : Nat} {u : pS} (P : PS w h f fo F c) (C : CPw w (w * h) fo u) : ∃ lx mx ly my, CQ w h fo F c lx mx ly my ∧ CA w h fo F c lx mx ly my u := by
  have key : ∀ p, ∃ q : Nat × Nat × Nat × Nat, p < c → (IsMn (Sp (w * h) fo (F p)) (fun j => j % w) q.1 ∧ IsMx (Sp (w * h) fo (F p)) (fun j => j % w) q.2.1 ∧ IsMn (Sp (w * h) fo (F p)) (fun j => j / w) q.2.2.1 ∧ IsMx (Sp (w * h) fo (F p)) (fun j => j / w) q.2.2.2) ∧ u.2 10 p = nI (F p) ∧ u.2 11 p = nI (sz fo (w * h) (F p)) ∧ u.2 12 p = nI q.1 ∧ u.2 13 p = nI q.2.1 ∧ u.2 14 p = nI q.2.2.2 ∧ F p / w = q.2.2.1 := by
    intro p
    by_cases hp : p < c
    · obtain ⟨e10, e11, ⟨a, ea, ha⟩, ⟨b, eb, hb⟩, ⟨d, ed, hd⟩⟩ := CP_at C P.2.1 hp
      have hF := Enu_F P.2.1 hp
      refine ⟨(a, b, F p / w, d), fun _ => ⟨⟨ha, hb, ⟨⟨F p, ⟨hF.1, hF.2.1⟩, rfl⟩, fun j hj => ?_⟩, hd⟩, e10, e11, ea, eb, ed, rfl⟩⟩
      have := fo_le P.1 hj.1
      rw [hj.2] at this
      exact Nat.div_le_div_right this
    · exact ⟨(0, 0, 0, 0), fun q => absurd q hp⟩
  refine ⟨fun p => (Classical.choose (key p)).1, fun p => (Classical.choose (key p)).2.1, fun p => (Classical.choose (key p)).2.2.1, fun p => (Classical.choose (key p)).2.2.2, fun p hp => (Classical.choose_spec (key p) hp).1, fun p hp => (Classical.choose_spec (key p) hp).2⟩
theorem CA_fr {w h : Nat} {fo F : Nat → Nat} {c : Nat} {lx mx ly my : Nat → Nat} {u v : pS} {A I : List Nat} (C : CA w h fo F c lx mx ly my u) (hf : fr A I u v) (h10 : 10 ∉ A := by decide) (h11 : 11 ∉ A := by decide) (h12 : 12 ∉ A := by decide) (h13 : 13 ∉ A := by decide) (h14 : 14 ∉ A := by decide) : CA w h fo F c lx mx ly my v := by
  unfold CA
  rw [hf.1 10 h10, hf.1 11 h11, hf.1 12 h12, hf.1 13 h13, hf.1 14 h14]
  exact C
theorem CQ_b {w h : Nat} {fo F : Nat → Nat} {c : Nat} {lx mx ly my : Nat → Nat} (q : CQ w h fo F c lx mx ly my) {p : Nat} (hp : p < c) : lx p ≤ mx p ∧ mx p < w ∧ ly p ≤ my p ∧ my p < h := by
  obtain ⟨⟨⟨j1, s1, e1⟩, a1⟩, ⟨⟨j2, s2, e2⟩, a2⟩, ⟨⟨j3, s3, e3⟩, a3⟩, ⟨⟨j4, s4, e4⟩, a4⟩⟩ := q p hp
  have b1 := a1 j2 s2
  have b3 := a3 j4 s4
  have g2 := gr_x s2.1
  have g4 := gr_y s4.1
  dsimp only at *
  omega
def edg (w h : Nat) (lx mx ly my : Nat → Nat) (p : Nat) : Bool := (lx p == 0) || ((mx p == w - 1) || ((ly p == 0) || (my p == h - 1)))
def ltL (w h : Nat) (lx mx ly my s : Nat → Nat) (a b : Nat) : Bool := if edg w h lx mx ly my a = edg w h lx mx ly my b then decide (s b < s a) else edg w h lx mx ly my b
def ltH (lx mx ly my : Nat → Nat) (a b : Nat) : Bool := if my a - ly a = my b - ly b then decide (mx b - lx b < mx a - lx a) else decide (my b - ly b < my a - ly a)
def ltB (g : Nat → Int32) (a b : Nat) : Bool := decide ((g b).toInt < (g a).toInt)
theorem Ord_L (w h : Nat) (lx mx ly my s : Nat → Nat) (n : Nat) : Ord (bef (ltL w h lx mx ly my s)) n := by
  refine ⟨fun a _ => ?_, fun a b c _ _ _ h1 h2 => ?_⟩
  · unfold bef ltL; simp
  · unfold bef ltL at *
    generalize edg w h lx mx ly my a = ea at *
    generalize edg w h lx mx ly my b = eb at *
    generalize edg w h lx mx ly my c = ec at *
    cases ea <;> cases eb <;> cases ec <;> simp at h1 h2 ⊢ <;> omega
theorem bef_H {lx mx ly my : Nat → Nat} {a b : Nat} : bef (ltH lx mx ly my) a b = true ↔ (my b - ly b < my a - ly a ∨ (my a - ly a = my b - ly b ∧ (mx b - lx b < mx a - lx a ∨ (mx a - lx a = mx b - lx b ∧ a < b)))) := by
  unfold bef ltH
  generalize my a - ly a = ha
  generalize my b - ly b = hb
  generalize mx a - lx a = wa
  generalize mx b - lx b = wb
  by_cases e : ha = hb
  · subst e
    simp
    omega
  · rw [if_neg e, if_neg (Ne.symm e)]
    simp
    omega
theorem Ord_H (lx mx ly my : Nat → Nat) (n : Nat) : Ord (bef (ltH lx mx ly my)) n := by
  refine ⟨fun a _ => ?_, fun a b c _ _ _ h1 h2 => ?_⟩
  · unfold bef ltH; simp
  · rw [bef_H] at *
    omega
theorem Ord_B (g : Nat → Int32) (n : Nat) : Ord (bef (ltB g)) n := by
  refine ⟨fun a _ => ?_, fun a b c _ _ _ h1 h2 => ?_⟩
  · unfold bef ltB; simp
  · unfold bef ltB at *
    simp at h1 h2 ⊢
    omega
theorem bef_B {g : Nat → Int32} {a b : Nat} : bef (ltB g) a b = true ↔ ((g b).toInt < (g a).toInt ∨ ((g a).toInt = (g b).toInt ∧ a < b)) := by
  unfold bef ltB
  simp
  omega
section
variable {w h K : Nat} {G : pG} {fo F : Nat → Nat} {c : Nat} {lx mx ly my : Nat → Nat} {u : pS} {p : Nat}
theorem q_B (H : GI w h K G) (q : CQ w h fo F c lx mx ly my) (hp : p < c) : lx p ≤ mx p ∧ mx p < w ∧ ly p ≤ my p ∧ my p < h := CQ_b q hp
theorem e_size (H : GI w h K G) (hcN : c ≤ w * h) (C : CA w h fo F c lx mx ly my u) (hp : p < c) {Q : Int32 → pS → Prop} : wp_Pieces_sizeOf G (nI p) u Q ↔ Q (nI (sz fo (w * h) (F p))) u := by
  have B := gB H
  unfold wp_Pieces_sizeOf
  rw [gl_25 H, nI_clamp (n := p) (by omega), (C p hp).2.1]
  exact and_iff_right (vp_in_nI (by omega) (by omega))
theorem e_leastX (H : GI w h K G) (hcN : c ≤ w * h) (C : CA w h fo F c lx mx ly my u) (hp : p < c) {Q : Int32 → pS → Prop} : wp_Pieces_leastXOf G (nI p) u Q ↔ Q (nI (lx p)) u := by
  have B := gB H
  unfold wp_Pieces_leastXOf
  rw [gl_26 H, nI_clamp (n := p) (by omega), (C p hp).2.2.1]
  exact and_iff_right (vp_in_nI (by omega) (by omega))
theorem e_leastY (H : GI w h K G) (hcN : c ≤ w * h) (E : Enu fo (w * h) c F) (C : CA w h fo F c lx mx ly my u) (hp : p < c) {Q : Int32 → pS → Prop} : wp_Pieces_leastYOf G (nI p) u Q ↔ Q (nI (ly p)) u := by
  have B := gB H
  have hF := Enu_F E hp
  unfold wp_Pieces_leastYOf
  rw [gl_24 H, nI_clamp (n := p) (by omega), (C p hp).1, e_row H hF.1, (C p hp).2.2.2.2.2]
  exact and_iff_right (vp_in_nI (by omega) (by omega))
theorem e_firstX (H : GI w h K G) (hcN : c ≤ w * h) (E : Enu fo (w * h) c F) (C : CA w h fo F c lx mx ly my u) (hp : p < c) {Q : Int32 → pS → Prop} : wp_Pieces_firstXOf G (nI p) u Q ↔ Q (nI (F p % w)) u := by
  have B := gB H
  have hF := Enu_F E hp
  unfold wp_Pieces_firstXOf
  rw [gl_24 H, nI_clamp (n := p) (by omega), (C p hp).1, e_col H hF.1]
  exact and_iff_right (vp_in_nI (by omega) (by omega))
theorem e_cols (H : GI w h K G) (hcN : c ≤ w * h) (q : CQ w h fo F c lx mx ly my) (C : CA w h fo F c lx mx ly my u) (hp : p < c) {Q : Int32 → pS → Prop} : wp_Pieces_columnsOf G (nI p) u Q ↔ Q (nI (mx p - lx p + 1)) u := by
  have B := gB H
  have b := CQ_b q hp
  unfold wp_Pieces_columnsOf
  rw [gl_26 H, gl_27 H, nI_clamp (n := p) (by omega), (C p hp).2.2.1, (C p hp).2.2.2.1, nI_sub (by omega), nI_1]
  rw [and_iff_right (vp_in_nI (by omega) (by omega)), and_iff_right (vp_in_nI (by omega) (by omega))]
theorem e_rows (H : GI w h K G) (hcN : c ≤ w * h) (E : Enu fo (w * h) c F) (q : CQ w h fo F c lx mx ly my) (C : CA w h fo F c lx mx ly my u) (hp : p < c) {Q : Int32 → pS → Prop} : wp_Pieces_rowsOf G (nI p) u Q ↔ Q (nI (my p - ly p + 1)) u := by
  have B := gB H
  have b := CQ_b q hp
  unfold wp_Pieces_rowsOf
  rw [e_leastY H hcN E C hp, gl_28 H, nI_clamp (n := p) (by omega), (C p hp).2.2.2.2.1, nI_sub (by omega), nI_1]
  exact and_iff_right (vp_in_nI (by omega) (by omega))
theorem e_edge (H : GI w h K G) (hcN : c ≤ w * h) (E : Enu fo (w * h) c F) (q : CQ w h fo F c lx mx ly my) (C : CA w h fo F c lx mx ly my u) (hp : p < c) {Q : Int32 → pS → Prop} : wp_Pieces_isAtEdge G (nI p) u Q ↔ Q (bI (edg w h lx mx ly my p)) u := by
  have B := gB H
  have b := CQ_b q hp
  have hv : vp_in (nI p) (w * h) := vp_in_nI (by omega) (by omega)
  have n0 : ∀ x : Nat, x < 400 → (nI x = 0 ↔ x = 0) := fun x hx => by rw [li_0]; exact nI_eq (by omega) (by omega)
  unfold wp_Pieces_isAtEdge edg
  rw [gl_26 H, gl_27 H, gl_28 H, gp_1 H, gp_2 H, nI_clamp (n := p) (by omega), (C p hp).2.2.1, (C p hp).2.2.2.1, and_iff_right hv, and_iff_right hv]
  rw [n0 _ (by omega), li_1, nI_sub (a := w) (by omega), nI_eq (by omega) (by omega)]
  by_cases e1 : lx p = 0
  · rw [bt e1, e1, ← li_1]; rfl
  · rw [bf e1]
    by_cases e2 : mx p = w - 1
    · rw [bt e2, e2, ← li_1]; simp [bI]
    · rw [bf e2, e_leastY H hcN E C hp, (C p hp).2.2.2.2.1, and_iff_right hv, nI_sub (a := h) (by omega), n0 _ (by omega), nI_eq (by omega) (by omega)]
      by_cases e3 : ly p = 0
      · rw [bt e3, e3, ← li_1]; simp [bI]
      · rw [bf e3]
        by_cases e4 : my p = h - 1
        · rw [bt e4, e4, ← li_1]; simp [bI]
        · rw [bf e4]; simp [bI, e1, e2, e3, e4]
theorem e_icmp {a b : Nat} (ha : a < 2147483648) (hb : b < 2147483648) {Q : Int32 → pS → Prop} (hQ : ∀ r : Int32, (0 ≤ r ↔ ¬ a < b) → Q r u) : wp_Integer_compare G (nI a) (nI b) u Q := by
  unfold wp_Integer_compare
  by_cases e : b ≤ a
  · refine b_t (nI_le e (by omega)) ?_
    by_cases e2 : a = b
    · exact b_t (by rw [e2]) (hQ 0 ⟨fun _ => by omega, fun _ => by decide⟩)
    · exact b_f (fun q => e2 ((nI_eq (by omega) (by omega)).mp q)) (hQ 1 ⟨fun _ => by omega, fun _ => by decide⟩)
  · exact b_f (nI_ge (by omega) (by omega)) (hQ (-1) ⟨fun q => absurd q (by decide), fun q => absurd (by omega) q⟩)
theorem e_icmp32 {a b : Int32} {Q : Int32 → pS → Prop} (hQ : ∀ r : Int32, (0 ≤ r ↔ ¬ a.toInt < b.toInt) → Q r u) : wp_Integer_compare G a b u Q := by
  unfold wp_Integer_compare
  by_cases e : b ≤ a
  · have e' := Int32.le_iff_toInt_le.mp e
    refine b_t e ?_
    by_cases e2 : a = b
    · exact b_t e2 (hQ 0 ⟨fun _ => by omega, fun _ => by decide⟩)
    · exact b_f e2 (hQ 1 ⟨fun _ => by omega, fun _ => by decide⟩)
  · have e' : a.toInt < b.toInt := Int.not_le.mp (fun q => e (Int32.le_iff_toInt_le.mpr q))
    exact b_f e (hQ (-1) ⟨fun q => absurd q (by decide), fun q => absurd e' q⟩)
theorem k_cmpL (H : GI w h K G) (hcN : c ≤ w * h) (E : Enu fo (w * h) c F) (q : CQ w h fo F c lx mx ly my) (C : CA w h fo F c lx mx ly my u) {a b : Nat} (ha : a < c) (hb : b < c) {Q : Int32 → pS → Prop} (hQ : ∀ r : Int32, (0 ≤ r ↔ ltL w h lx mx ly my (fun p => sz fo (w * h) (F p)) a b = false) → Q r u) : wp_Laying_compare G (nI a) (nI b) u Q := by
  have B := gB H
  have z1 := sz_le fo (w * h) (F a)
  have z2 := sz_le fo (w * h) (F b)
  unfold wp_Laying_compare
  rw [e_edge H hcN E q C ha, e_edge H hcN E q C hb]
  unfold ltL at hQ
  by_cases e : edg w h lx mx ly my a = edg w h lx mx ly my b
  · rw [bt (by rw [e]), e_size H hcN C hb, e_size H hcN C ha]
    refine e_icmp (by omega) (by omega) (fun r hr => hQ r ?_)
    rw [if_pos e, hr]; simp
  · have e' : ¬ bI (edg w h lx mx ly my a) = bI (edg w h lx mx ly my b) := by
      intro q2
      cases ea : edg w h lx mx ly my a <;> cases eb : edg w h lx mx ly my b <;> rw [ea, eb] at q2 e
      · exact e rfl
      · exact absurd q2 (by decide)
      · exact absurd q2 (by decide)
      · exact e rfl
    rw [bf e', e_edge H hcN E q C hb, bI_0]
    rw [if_neg e] at hQ
    cases eb : edg w h lx mx ly my b with
    | false => exact b_t rfl (hQ 1 ⟨fun _ => eb, fun _ => by decide⟩)
    | true => exact b_f (by decide) (hQ (-1) ⟨fun q => absurd q (by decide), fun q => by rw [eb] at q; exact absurd q (by decide)⟩)
theorem k_cmpH (H : GI w h K G) (hcN : c ≤ w * h) (E : Enu fo (w * h) c F) (q : CQ w h fo F c lx mx ly my) (C : CA w h fo F c lx mx ly my u) {a b : Nat} (ha : a < c) (hb : b < c) {Q : Int32 → pS → Prop} (hQ : ∀ r : Int32, (0 ≤ r ↔ ltH lx mx ly my a b = false) → Q r u) : wp_Highest_compare G (nI a) (nI b) u Q := by
  have B := gB H
  have z1 := CQ_b q ha
  have z2 := CQ_b q hb
  unfold wp_Highest_compare
  rw [e_rows H hcN E q C ha, e_rows H hcN E q C hb, nI_eq (by omega) (by omega)]
  unfold ltH at hQ
  by_cases e : my a - ly a = my b - ly b
  · rw [bt (by omega), e_cols H hcN q C hb, e_cols H hcN q C ha]
    refine e_icmp (by omega) (by omega) (fun r hr => hQ r ?_)
    rw [if_pos e, hr]; simp
  · rw [bf (by omega), e_rows H hcN E q C hb, e_rows H hcN E q C ha]
    refine e_icmp (by omega) (by omega) (fun r hr => hQ r ?_)
    rw [if_neg e, hr]; simp
/-- how bright the kind j is -/
def br (u : pS) (j : Nat) : Int32 := ((2 * u.2 3 j) + (5 * u.2 4 j)) + u.2 5 j
theorem e_br (H : GI w h K G) {j : Nat} (hj : j < K) {Q : Int32 → pS → Prop} : wp_Colours_brightness_woods G (nI j) u Q ↔ Q (br u j) u := by
  have B := gB H
  have h2 : vp_in (nI j) K := vp_in_nI hj (by omega)
  unfold wp_Colours_brightness_woods br
  rw [gl_17 H, gl_18 H, gl_19 H, nI_clamp (n := j) (by omega), and_iff_right h2, and_iff_right h2, and_iff_right h2]
theorem k_cmpB (H : GI w h K G) {a b : Nat} (ha : a < K) (hb : b < K) {Q : Int32 → pS → Prop} (hQ : ∀ r : Int32, (0 ≤ r ↔ ltB (br u) a b = false) → Q r u) : wp_Brightest_compare G (nI a) (nI b) u Q := by
  unfold wp_Brightest_compare
  rw [e_br H hb, e_br H ha]
  refine e_icmp32 (fun r hr => hQ r ?_)
  unfold ltB
  rw [hr]; simp
end
