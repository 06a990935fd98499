/-! OWN ROWS: the grid as its constructor leaves it; the start. -/
section
variable {w h K : Nat}
theorem e_gplc (B : 0 < w ∧ w ≤ 20 ∧ 0 < h ∧ h ≤ 20) {x y : Int} (hx : -100 ≤ x) (hx2 : x ≤ 100) (hy : -100 ≤ y) (hy2 : y ≤ 100) {u : pS} {Q : Int32 → pS → Prop} : wp_gGrid_placeOf (gG w h) (zI x) (zI y) u Q ↔ Q (zI (pl w h x y)) u := by
  unfold wp_gGrid_placeOf pl
  rw [show (gG w h).2.1 0 = nI w from rfl, show (gG w h).2.1 1 = nI h from rfl, nI_z w, nI_z h, lz_0, lz_m1, zI_mul, zI_add]
  rw [zI_lt (by omega) (by omega) (by omega) (by omega), zI_lt (by omega) (by omega) (by omega) (by omega), zI_le (by omega) (by omega) (by omega) (by omega), zI_le (by omega) (by omega) (by omega) (by omega)]
  by_cases h1 : x < 0
  · rw [bt h1, if_neg (by omega)]
  · rw [bf h1]
    by_cases h2 : (w : Int) ≤ x
    · rw [bt h2, if_neg (by omega)]
    · rw [bf h2]
      by_cases h3 : y < 0
      · rw [bt h3, if_neg (by omega)]
      · rw [bf h3]
        by_cases h4 : (h : Int) ≤ y
        · rw [bt h4, if_neg (by omega)]
        · rw [bf h4, if_pos (by omega)]
theorem dx_b {s : Nat} : -1 ≤ dx s ∧ dx s ≤ 1 ∧ -1 ≤ dy s ∧ dy s ≤ 1 := by
  unfold dx dy
  refine ⟨?_, ?_, ?_, ?_⟩ <;> split <;> (try split) <;> omega
def gD (w h : Nat) (u : pS) (n : Nat) : Prop := ∀ k, k < n → u.2 0 k = nI (k % w) ∧ u.2 1 k = nI (k / w) ∧ ∀ s, s < 4 → u.2 2 (k * 4 + s) = zI (bs w h k s)
theorem k_grid (B : 0 < w ∧ w ≤ 20 ∧ 0 < h ∧ h ≤ 20 ∧ 0 < K ∧ K ≤ 8 ∧ 0 < w * h ∧ w * h ≤ 400 ∧ 2 * (w + 1) * (h + 1) ≤ 882) {Q : pS → Prop} (hQ : ∀ v, GI w h K (cG w h K v) → Q v) : wp_gGrid_init (gG w h) (nI w) (nI h) pc_u Q := by
  have l97 : ∀ (k63 : Int32 → Int32 → Int32 → Int32 → pS → Prop) (x y : Nat), x < w → y < h → (∀ u, gD w h u (y * w + x + 1) → k63 (nI w) (nI h) (nI y) (nI (x + 1)) u) → ∀ (d t : Nat) (u : pS), t + d = 4 → gD w h u (y * w + x) → u.2 0 (y * w + x) = nI x → u.2 1 (y * w + x) = nI y → (∀ s, s < t → u.2 2 ((y * w + x) * 4 + s) = zI (bs w h (y * w + x) s)) → lp_gGrid_init_97 (gG w h) Q k63 (d + 1) (nI w) (nI h) (nI y) (nI x) (nI (y * w + x)) (nI t) u := by
    intro k63 x y hx hy hk d
    have hkN := gr_in hx hy
    have hm := gr_mod (y := y) hx
    have hd' := gr_div (y := y) hx
    induction d with
    | zero =>
      intro t u hd hG h0 h1 h2
      have e : t = 4 := by omega
      unfold lp_gGrid_init_97
      simp only [forall_eq, nI_1]
      refine b_t (by rw [e, li_4]; exact nI_le (by omega) (by omega)) (hk u (fun k hk' => ?_))
      by_cases ek : k = y * w + x
      · rw [ek, hm, hd']; exact ⟨h0, h1, fun s hs => h2 s (by omega)⟩
      · exact hG k (by omega)
    | succ d ih =>
      intro t u hd hG h0 h1 h2
      have ht := tb_sx t (by omega)
      have hb := dx_b (s := t)
      unfold lp_gGrid_init_97
      rw [nI_clamp (n := t) (by omega), ht.1, ht.2.1, nI_z x, nI_z y, zI_add, zI_add]
      refine b_f (by rw [li_4]; exact nI_ge (by omega) (by omega)) ⟨vp_in_nI (by omega) (by omega), vp_in_nI (by omega) (by omega), ?_⟩
      rw [e_gplc ⟨B.1, B.2.1, B.2.2.1, B.2.2.2.1⟩ (by omega) (by omega) (by omega) (by omega)]
      rw [li_4, nI_mul, nI_add, nI_clamp (n := (y * w + x) * 4 + t) (by omega)]
      refine ⟨vp_in_nI (show (y * w + x) * 4 + t < w * h * 4 by omega) (show w * h * 4 < 2 ^ 31 by omega), ?_⟩
      intro u11 hu11 t12 ht12
      rw [ht12, nI_1, hu11, ← nI_z, ← nI_z]
      refine ih (t + 1) _ (by omega) (fun k hk' => ?_) (by rw [sa_ne _ _ (by decide)]; exact h0) (by rw [sa_ne _ _ (by decide)]; exact h1) (fun s hs => ?_)
      · have := hG k hk'
        rw [sa_ne _ _ (by decide), sa_ne _ _ (by decide), sa_eq]
        refine ⟨this.1, this.2.1, fun s hs => ?_⟩
        rw [upd_ne _ _ (by omega)]; exact this.2.2 s hs
      · rw [sa_eq]
        by_cases es : s = t
        · rw [es, upd_eq]
          unfold bs
          rw [hm, hd']
        · rw [upd_ne _ _ (by omega)]; exact h2 s (by omega)
  have l63 : ∀ (k55 : Int32 → Int32 → Int32 → pS → Prop) (y : Nat), y < h → (∀ u, gD w h u ((y + 1) * w) → k55 (nI w) (nI h) (nI (y + 1)) u) → ∀ (d x : Nat) (u : pS), x + d = w → gD w h u (y * w + x) → lp_gGrid_init_63 (gG w h) Q k55 (d + 1) (nI w) (nI h) (nI y) (nI x) u := by
    intro k55 y hy hk d
    induction d with
    | zero =>
      intro x u hd hG
      have e : x = w := by omega
      unfold lp_gGrid_init_63
      simp only [forall_eq, nI_1]
      refine b_t (nI_le (by omega) (by omega)) (hk u ?_)
      rw [Nat.add_mul, Nat.one_mul]
      rw [e] at hG; exact hG
    | succ d ih =>
      intro x u hd hG
      have hkN := gr_in (show x < w by omega) hy
      unfold lp_gGrid_init_63
      refine b_f (nI_ge (by omega) (by omega)) ?_
      intro t4 ht4
      rw [nI_mul, nI_add] at ht4
      rw [ht4, nI_clamp (n := y * w + x) (by omega)]
      refine ⟨vp_in_nI (show y * w + x < w * h from hkN) (show w * h < 2 ^ 31 by omega), ?_⟩
      intro u5 hu5
      refine ⟨vp_in_nI (show y * w + x < w * h from hkN) (show w * h < 2 ^ 31 by omega), ?_⟩
      intro u6 hu6
      refine ⟨4 + 1, ?_⟩
      rw [li_0]
      refine l97 _ x y (by omega) hy (fun u7 hG7 => ih (x + 1) u7 (by omega) hG7) 4 0 u6 (by omega) (fun k hk' => ?_) ?_ ?_ (fun s hs => absurd hs (Nat.not_lt_zero s))
      · have := hG k hk'
        rw [hu6, sa_ne _ _ (by decide), sa_eq, sa_ne _ _ (by decide), hu5, sa_eq, sa_ne _ _ (by decide), sa_ne _ _ (by decide), upd_ne _ _ (by omega), upd_ne _ _ (by omega)]
        exact this
      · rw [hu6, sa_ne _ _ (by decide), hu5, sa_eq, upd_eq]
      · rw [hu6, sa_eq, upd_eq]
  unfold wp_gGrid_init
  suffices hl : ∀ (d y : Nat) (u : pS), y + d = h → gD w h u (y * w) → lp_gGrid_init_55 (gG w h) Q (d + 1) (nI w) (nI h) (nI y) u from
    ⟨h + 1, by rw [li_0]; exact hl h 0 pc_u (by omega) (fun k hk => absurd hk (by rw [Nat.zero_mul]; exact Nat.not_lt_zero k))⟩
  intro d
  induction d with
  | zero =>
    intro y u hd hG
    have e : y = h := by omega
    rw [e, Nat.mul_comm] at hG
    unfold lp_gGrid_init_55
    exact b_t (nI_le (by omega) (by omega)) (hQ u ⟨⟨u, rfl⟩, B, fun k hk => (hG k hk).1, fun k hk => (hG k hk).2.1, fun k s hk hs => (hG k hk).2.2 s hs⟩)
  | succ d ih =>
    intro y u hd hG
    unfold lp_gGrid_init_55
    refine b_f (nI_ge (by omega) (by omega)) ⟨w + 1, ?_⟩
    rw [li_0]
    exact l63 _ y (by omega) (fun u2 hG2 => ih (y + 1) u2 (by omega) hG2) w 0 u (by omega) hG
theorem nr_b (x1 x2 x3 : Int32) : 0 < pc_nr x1 20 ∧ pc_nr x1 20 ≤ 20 ∧ 0 < pc_nr x2 20 ∧ pc_nr x2 20 ≤ 20 ∧ 0 < pc_nr x3 8 ∧ pc_nr x3 8 ≤ 8 ∧ 0 < pc_nr x1 20 * pc_nr x2 20 ∧ pc_nr x1 20 * pc_nr x2 20 ≤ 400 ∧ 2 * (pc_nr x1 20 + 1) * (pc_nr x2 20 + 1) ≤ 882 := by
  have a := pc_nr_in (x := x1) (m := 20) (by decide)
  have b := pc_nr_in (x := x2) (m := 20) (by decide)
  have c := pc_nr_in (x := x3) (m := 8) (by decide)
  have e20 : (20 : Int32).toInt = 20 := by decide
  have e8 : (8 : Int32).toInt = 8 := by decide
  rw [e20] at a b
  rw [e8] at c
  generalize pc_nr x1 20 = p at *
  generalize pc_nr x2 20 = q at *
  generalize pc_nr x3 8 = r at *
  have h1 : p * q ≤ 20 * 20 := Nat.mul_le_mul (by omega) (by omega)
  have h2 : 0 < p * q := Nat.mul_pos (by omega) (by omega)
  have h3 : 2 * (p + 1) * (q + 1) ≤ 2 * 21 * 21 := Nat.mul_le_mul (by omega) (by omega)
  exact ⟨by omega, by omega, by omega, by omega, by omega, by omega, h2, by omega, by omega⟩
theorem Rel_0 (w h K : Nat) : Rel w h K pc_u pc_u := by
  refine ⟨fun k _ => ⟨rfl, rfl, rfl⟩, fun j _ => ⟨rfl, rfl, rfl⟩, Iff.rfl, fun q => absurd rfl q⟩
end
