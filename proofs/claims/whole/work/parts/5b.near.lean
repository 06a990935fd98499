/-! OWN ROWS: the nearest kind, in class and reference; the class makes its pieces. -/
def amz (g : Nat → Int32) (n b : Nat) : Prop := b < n ∧ (∀ p, p < n → (g b).toInt ≤ (g p).toInt) ∧ ∀ p, p < b → (g b).toInt < (g p).toInt
theorem amz_u {g : Nat → Int32} {n b b' : Nat} (h : amz g n b) (h' : amz g n b') : b = b' := by
  rcases Nat.lt_trichotomy b b' with e | e | e
  · have := h'.2.2 b e; have := h.2.1 b' h'.1; omega
  · exact e
  · have := h.2.2 b' e; have := h'.2.1 b h.1; omega
theorem amz_1 (g : Nat → Int32) : amz g 1 0 := ⟨by omega, fun p hp => by rw [show p = 0 by omega]; exact Int.le_refl _, fun p hp => absurd hp (Nat.not_lt_zero p)⟩
theorem amz_keep {g : Nat → Int32} {n b : Nat} (h : amz g n b) (e : (g b).toInt ≤ (g n).toInt) : amz g (n + 1) b := by
  refine ⟨by have := h.1; omega, fun q hq => ?_, h.2.2⟩
  by_cases e2 : q = n
  · rw [e2]; exact e
  · exact h.2.1 q (by omega)
theorem amz_new {g : Nat → Int32} {n b : Nat} (h : amz g n b) (e : (g n).toInt < (g b).toInt) : amz g (n + 1) n := by
  refine ⟨by omega, fun q hq => ?_, fun q hq => ?_⟩
  · by_cases e2 : q = n
    · rw [e2]; exact Int.le_refl _
    · have := h.2.1 q (by omega); omega
  · have := h.2.1 q (by omega); omega
def ab32 (d : Int32) : Int32 := if 0 ≤ d then d else 0 - d
def dis (a b c r g e : Int32) : Int32 := (ab32 (a - r) + ab32 (b - g)) + ab32 (c - e)
/-- how far the place k is from the kind j -/
def ds (u : pS) (k j : Nat) : Int32 := dis (u.2 0 k) (u.2 1 k) (u.2 2 k) (u.2 3 j) (u.2 4 j) (u.2 5 j)
section
variable {w h K : Nat} {G : pG}
theorem e_dist (H : GI w h K G) {k j : Nat} (hk : k < w * h) (hj : j < K) {u : pS} {Q : Int32 → pS → Prop} : wp_Colours_distance_picture_woods G (nI k) (nI j) u Q ↔ Q (ds u k j) u := by
  have B := gB H
  have h1 : vp_in (nI k) (w * h) := vp_in_nI hk (by omega)
  have h2 : vp_in (nI j) K := vp_in_nI hj (by omega)
  unfold wp_Colours_distance_picture_woods
  simp only [forall_eq, gl_14 H, gl_15 H, gl_16 H, gl_17 H, gl_18 H, gl_19 H, h1, h2, true_and]
  rw [nI_clamp (n := k) (by omega), nI_clamp (n := j) (by omega)]
  rfl
theorem k_nearest (H : GI w h K G) {k : Nat} (hk : k < w * h) {u : pS} {Q : Int32 → pS → Prop} (hQ : ∀ b, amz (ds u k) K b → Q (nI b) u) : wp_Pieces_nearestWood G (nI k) (nI K) u Q := by
  have B := gB H
  unfold wp_Pieces_nearestWood
  rw [li_0, e_dist H hk (by omega)]
  suffices hs : ∀ (d p b : Nat), p + d = K → amz (ds u k) p b → lp_Pieces_nearestWood_15 G Q (d + 1) (nI k) (nI K) (nI b) (ds u k b) (nI p) u by
    obtain ⟨d, hd⟩ : ∃ d, 1 + d = K := ⟨K - 1, by omega⟩
    exact ⟨d + 1, by rw [li_1]; exact hs d 1 0 hd (amz_1 _)⟩
  intro d
  induction d with
  | zero =>
    intro p b hd hm
    have e : p = K := by omega
    unfold lp_Pieces_nearestWood_15
    exact b_t (nI_le (by omega) (by omega)) (hQ b (by rw [← e]; exact hm))
  | succ d ih =>
    intro p b hd hm
    unfold lp_Pieces_nearestWood_15
    refine b_f (nI_ge (by omega) (by omega)) ?_
    rw [e_dist H hk (by omega)]
    simp only [forall_eq, nI_1]
    by_cases e : ds u k b ≤ ds u k p
    · exact b_t e (ih (p + 1) b (by omega) (amz_keep hm (Int32.le_iff_toInt_le.mp e)))
    · refine b_f e (ih (p + 1) p (by omega) (amz_new hm ?_))
      exact Int.not_le.mp (fun q => e (Int32.le_iff_toInt_le.mpr q))
theorem k_make (H : GI w h K G) {le : Nat} (hle : le ≤ 400) {Q : pS → Prop} {u0 : pS}
    (hQ : ∀ u f0 n fo F c, fr [6, 7, 8, 9, 10, 11, 12, 13, 14] [2] u0 u → (∀ k, k < w * h → ∃ b, f0 k = nI b ∧ amz (ds u0 k) K b) → JRun w h le n f0 (u.2 6) → PS w h (u.2 6) fo F c → CPw w (w * h) fo u → Q u) : wp_Pieces_make G (nI K) (nI le) u0 Q := by
  have B := gB H
  unfold wp_Pieces_make
  suffices hs : ∀ (d k : Nat) (u : pS), k + d = w * h → fr [6] [] u0 u → (∀ j, j < k → ∃ b, u.2 6 j = nI b ∧ amz (ds u0 j) K b) → lp_Pieces_make_3 G Q (d + 1) (nI K) (nI le) (nI k) u from
    ⟨w * h + 1, by rw [li_0]; exact hs (w * h) 0 u0 (by omega) (fr_refl _ _ _) (fun j hj => absurd hj (Nat.not_lt_zero j))⟩
  intro d
  induction d with
  | zero =>
    intro k u hd hfr h6
    unfold lp_Pieces_make_3
    refine b_t (by rw [gp_3 H]; exact nI_le (by omega) (by omega)) ?_
    obtain ⟨fo, F, c, P⟩ := PS_ex B.2.2.2.2.2.2.1 (u.2 6)
    refine k_gatherAll H P.1 ?_
    intro u2 f2 C2
    have e6 : u2.2 6 = u.2 6 := f2.1 6 (by decide)
    refine k_make43 H hle (u0 := u2) ?_ (fo := fo) (F := F) (c := c) (by rw [e6]; exact P) C2
    intro u3 n fo3 F3 c3 f3 hJ P3 C3
    refine hQ u3 (u2.2 6) n fo3 F3 c3 (fr_trans (fr_mono hfr (by decide) (by decide)) (fr_trans (fr_mono f2 (by decide) (by decide)) f3)) ?_ hJ P3 C3
    intro j hj
    rw [e6]; exact h6 j (by omega)
  | succ d ih =>
    intro k u hd hfr h6
    have hk : k < w * h := by omega
    have eds : ∀ j, ds u j = ds u0 j := by
      intro j
      funext i
      unfold ds
      rw [hfr.1 0 (by decide), hfr.1 1 (by decide), hfr.1 2 (by decide), hfr.1 3 (by decide), hfr.1 4 (by decide), hfr.1 5 (by decide)]
    unfold lp_Pieces_make_3
    refine b_f (by rw [gp_3 H]; exact nI_ge (by omega) (by omega)) ?_
    refine k_nearest H hk ?_
    intro b hb
    refine ⟨by rw [gl_20 H]; exact vp_in_nI hk (by omega), ?_⟩
    rw [nI_clamp (n := k) (by omega)]
    intro u11 hu11 t ht
    rw [ht, nI_1, hu11]
    refine ih (k + 1) _ (by omega) (fr_sa _ (by decide) hfr) (fun j hj => ?_)
    rw [sa_eq]
    by_cases e : j = k
    · rw [e, upd_eq]
      exact ⟨b, rfl, by rw [← eds]; exact hb⟩
    · rw [upd_ne _ _ e]; exact h6 j (by omega)
end
/-- how far the place k is from the kind j, in the reference -/
def mds (v : pS) (k j : Nat) : Int32 := dis (v.2 0 (3 * k)) (v.2 0 (3 * k + 1)) (v.2 0 (3 * k + 2)) (v.2 1 (3 * j)) (v.2 1 (3 * j + 1)) (v.2 1 (3 * j + 2))
section
variable {w h K : Nat} {G : pG}
theorem ab32_n {d : Int32} (hn : ¬ 0 ≤ d) : ab32 d = -d := by unfold ab32; rw [if_neg hn, Int32.zero_sub]
theorem ab32_p {d : Int32} (hp : 0 ≤ d) : ab32 d = d := if_pos hp
theorem m_ap1 (M : MI w h K G) {n k j i : Nat} {x : Int32} {v : pS} {Q : Int32 → pS → Prop} (hk : k < w * h) (hj : j < K) (hi : i < 3) (hn : lp_Model_apart_5 G Q n (nI k) (nI j) (x + ab32 (v.2 0 (3 * k + i) - v.2 1 (3 * j + i))) (nI (i + 1)) v) : lp_Model_apart_5 G Q (n + 1) (nI k) (nI j) x (nI i) v := by
  have B := mB M
  unfold lp_Model_apart_5
  rw [li_3, nI_mul, nI_add, nI_mul, nI_add, nI_clamp (n := 3 * k + i) (by omega), nI_clamp (n := 3 * j + i) (by omega), ml_1 M, ml_2 M]
  simp only [forall_eq, nI_1]
  refine b_f (nI_ge (by omega) (by omega)) ⟨vp_in_nI (by omega) (by omega), vp_in_nI (by omega) (by omega), ?_⟩
  by_cases e : 0 ≤ v.2 0 (3 * k + i) - v.2 1 (3 * j + i)
  · rw [ab32_p e] at hn; exact b_t e hn
  · rw [ab32_n e] at hn; exact b_f e hn
theorem m_apart (M : MI w h K G) {k j : Nat} {v : pS} {Q : Int32 → pS → Prop} (hk : k < w * h) (hj : j < K) (hQ : Q (mds v k j) v) : wp_Model_apart G (nI k) (nI j) v Q := by
  refine ⟨4, ?_⟩
  rw [li_0]
  refine m_ap1 M hk hj (by omega) (m_ap1 M hk hj (by omega) (m_ap1 M hk hj (by omega) ?_))
  unfold lp_Model_apart_5
  refine b_t (by decide) ?_
  rw [← li_0, Int32.zero_add]
  exact hQ
theorem m_nearest (M : MI w h K G) {k : Nat} (hk : k < w * h) {u : pS} {Q : Int32 → pS → Prop} (hQ : ∀ b, amz (mds u k) K b → Q (nI b) u) : wp_Model_nearestKind G (nI k) u Q := by
  have B := mB M
  unfold wp_Model_nearestKind
  suffices hs : ∀ (d p b : Nat), p + d = K → amz (mds u k) p b → lp_Model_nearestKind_4 G Q (d + 1) (nI k) (nI b) (nI p) u by
    obtain ⟨d, hd⟩ : ∃ d, 1 + d = K := ⟨K - 1, by omega⟩
    exact ⟨d + 1, by rw [li_1, li_0]; exact hs d 1 0 hd (amz_1 _)⟩
  intro d
  induction d with
  | zero =>
    intro p b hd hm
    have e : p = K := by omega
    unfold lp_Model_nearestKind_4
    exact b_t (by rw [mp_2 M]; exact nI_le (by omega) (by omega)) (hQ b (by rw [← e]; exact hm))
  | succ d ih =>
    intro p b hd hm
    have hb := hm.1
    unfold lp_Model_nearestKind_4
    refine b_f (by rw [mp_2 M]; exact nI_ge (by omega) (by omega)) ?_
    refine m_apart M hk (by omega) (m_apart M hk (by omega) ?_)
    simp only [forall_eq, nI_1]
    by_cases e : mds u k b ≤ mds u k p
    · exact b_t e (ih (p + 1) b (by omega) (amz_keep hm (Int32.le_iff_toInt_le.mp e)))
    · refine b_f e (ih (p + 1) p (by omega) (amz_new hm ?_))
      exact Int.not_le.mp (fun q => e (Int32.le_iff_toInt_le.mpr q))
end
