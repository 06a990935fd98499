/-! OWN ROWS: the reference makes its pieces. -/
def mG (w h K : Nat) : pG := (fun k => if k = 1 then 1200 else if k = 2 then 24 else if k = 8 then 1700 else if k = 9 then 1700 else if k = 12 then 100 else if k = 13 then 100 else if k = 14 then 100 else 400, fun k => if k = 0 then nI w else if k = 1 then nI h else nI K, fun _ _ => 0)
def MI (w h K : Nat) (G : pG) : Prop := G = mG w h K ∧ (0 < w ∧ w ≤ 20 ∧ 0 < h ∧ h ≤ 20 ∧ 0 < K ∧ K ≤ 8 ∧ 0 < w * h ∧ w * h ≤ 400 ∧ 2 * (w + 1) * (h + 1) ≤ 882)
/-- the reference's pieces are those of fo -/
def MPw (N : Nat) (fo : Nat → Nat) (v : pS) : Prop := (∀ k, k < N → v.2 3 k = nI (fo k)) ∧ v.1 1 = nI (cnt (fx fo) N) ∧ (∀ k, k < N → fo k = k → v.2 4 (cnt (fx fo) k) = nI k) ∧ (∀ k, k < N → v.2 5 k = nI (cnt (fun j => fo j == k) N))
def sm (L : Nat → Nat) : Nat → Nat
  | 0 => 0
  | n + 1 => sm L n + L n
theorem sm_congr {L M : Nat → Nat} {n : Nat} (h : ∀ k, k < n → L k = M k) : sm L n = sm M n := by
  induction n with
  | zero => rfl
  | succ n ih => show sm L n + L n = sm M n + M n; rw [ih (fun k hk => h k (by omega)), h n (by omega)]
theorem sm_upd {L M : Nat → Nat} {n k : Nat} (hk : k < n) (h : ∀ j, j < n → j ≠ k → M j = L j) : sm M n + L k = sm L n + M k := by
  induction n with
  | zero => omega
  | succ n ih =>
    show sm M n + M n + L k = sm L n + L n + M k
    by_cases e : k = n
    · rw [e, sm_congr (L := M) (M := L) (fun j hj => h j (by omega) (by omega))]; omega
    · have := ih (by omega) (fun j hj => h j (by omega))
      rw [h n (by omega) (by omega)]; omega
section
variable {w h K : Nat} {G : pG}
theorem mB (M : MI w h K G) : 0 < w ∧ w ≤ 20 ∧ 0 < h ∧ h ≤ 20 ∧ 0 < K ∧ K ≤ 8 ∧ 0 < w * h ∧ w * h ≤ 400 ∧ 2 * (w + 1) * (h + 1) ≤ 882 := M.2
theorem ml_1 (M : MI w h K G) : G.1 1 = 1200 := by obtain ⟨rfl, _⟩ := M; rfl
theorem ml_2 (M : MI w h K G) : G.1 2 = 24 := by obtain ⟨rfl, _⟩ := M; rfl
theorem ml_3 (M : MI w h K G) : G.1 3 = 400 := by obtain ⟨rfl, _⟩ := M; rfl
theorem ml_4 (M : MI w h K G) : G.1 4 = 400 := by obtain ⟨rfl, _⟩ := M; rfl
theorem ml_5 (M : MI w h K G) : G.1 5 = 400 := by obtain ⟨rfl, _⟩ := M; rfl
theorem ml_6 (M : MI w h K G) : G.1 6 = 400 := by obtain ⟨rfl, _⟩ := M; rfl
theorem ml_7 (M : MI w h K G) : G.1 7 = 400 := by obtain ⟨rfl, _⟩ := M; rfl
theorem ml_8 (M : MI w h K G) : G.1 8 = 1700 := by obtain ⟨rfl, _⟩ := M; rfl
theorem ml_9 (M : MI w h K G) : G.1 9 = 1700 := by obtain ⟨rfl, _⟩ := M; rfl
theorem ml_10 (M : MI w h K G) : G.1 10 = 400 := by obtain ⟨rfl, _⟩ := M; rfl
theorem ml_11 (M : MI w h K G) : G.1 11 = 400 := by obtain ⟨rfl, _⟩ := M; rfl
theorem ml_12 (M : MI w h K G) : G.1 12 = 100 := by obtain ⟨rfl, _⟩ := M; rfl
theorem ml_13 (M : MI w h K G) : G.1 13 = 100 := by obtain ⟨rfl, _⟩ := M; rfl
theorem ml_14 (M : MI w h K G) : G.1 14 = 100 := by obtain ⟨rfl, _⟩ := M; rfl
theorem mp_0 (M : MI w h K G) : G.2.1 0 = nI w := by obtain ⟨rfl, _⟩ := M; rfl
theorem mp_1 (M : MI w h K G) : G.2.1 1 = nI h := by obtain ⟨rfl, _⟩ := M; rfl
theorem mp_2 (M : MI w h K G) : G.2.1 2 = nI K := by obtain ⟨rfl, _⟩ := M; rfl
theorem e_mpl (M : MI w h K G) {x y : Int} (hx : -2147483648 ≤ x) (hx2 : x < 2147483648) (hy : -2147483648 ≤ y) (hy2 : y < 2147483648) {u : pS} {Q : Int32 → pS → Prop} : wp_Model_isPlace G (zI x) (zI y) u Q ↔ Q (if 0 ≤ x ∧ x < w ∧ 0 ≤ y ∧ y < h then 1 else 0) u := by
  have B := mB M
  unfold wp_Model_isPlace
  rw [mp_0 M, mp_1 M, nI_z w, nI_z h, lz_0]
  rw [zI_lt hx hx2 (by omega) (by omega), zI_lt hy hy2 (by omega) (by omega), zI_le (by omega) (by omega) hx hx2, zI_le (by omega) (by omega) hy hy2]
  by_cases h1 : x < 0
  · rw [bt h1, if_neg (by omega)]
  · rw [bf h1]
    by_cases h2 : (w : Int) ≤ x
    · rw [bt h2, if_neg (by omega)]
    · rw [bf h2]
      by_cases h3 : y < 0
      · rw [bt h3, if_neg (by omega)]
      · rw [bf h3]
        by_cases h4 : (h : Int) ≤ y
        · rw [bt h4, if_neg (by omega)]
        · rw [bf h4, if_pos (by omega)]
theorem e_mb51 (M : MI w h K G) {x y d : Int} (hx : -100 ≤ x) (hx2 : x ≤ 100) (hy : -100 ≤ y + d) (hy2 : y + d ≤ 100) {u : pS} {Q : Int32 → pS → Prop} : jn_Model_beside_51 G Q (zI x) (zI d) (zI y) u ↔ Q (zI (pl w h x (y + d))) u := by
  have B := mB M
  unfold jn_Model_beside_51 pl
  simp only [forall_eq]
  rw [zI_add, e_mpl M (by omega) (by omega) (by omega) (by omega), mp_0 M, nI_z, zI_mul, zI_add]
  by_cases e : 0 ≤ x ∧ x < w ∧ 0 ≤ y + d ∧ y + d < h
  · rw [if_pos e, if_pos e, bf (by decide), Int.mul_comm]
  · rw [if_neg e, if_neg e, bt rfl, lz_m1]
theorem e_mbes (M : MI w h K G) {k s : Nat} (hk : k < w * h) (hs : s < 4) {u : pS} {Q : Int32 → pS → Prop} : wp_Model_beside G (nI k) (nI s) u Q ↔ Q (zI (bs w h k s)) u := by
  have B := mB M
  have hx := gr_x hk
  have hy := gr_y hk
  have hw0 : ¬ nI w = 0 := nI_ne0 (by omega) (by omega)
  have c : ∀ a b : Nat, a < 4 → b < 4 → a ≠ b → ¬ nI a = nI b := fun a b ha hb hab q => hab ((nI_eq (by omega) (by omega)).mp q)
  have k24 : ∀ (x : Int), -100 ≤ x → x ≤ 100 → (jn_Model_beside_24 G Q (nI k) (nI s) (zI (dx s)) (zI (x - dx s)) u ↔ Q (zI (pl w h x ((k / w : Nat) + dy s))) u) := by
    intro x h1 h2
    unfold jn_Model_beside_24
    simp only [forall_eq]
    rw [mp_0 M, nI_div (by omega) (by omega), zI_add, nI_z (k / w), and_iff_right hw0, lz_m1, li_1, li_3, Int.sub_add_cancel]
    generalize k / w = y at hy
    have es : s = 0 ∨ s = 1 ∨ s = 2 ∨ s = 3 := by omega
    rcases es with rfl | rfl | rfl | rfl
    · rw [bf (c 0 1 (by omega) (by omega) (by omega)), bf (c 0 3 (by omega) (by omega) (by omega)), lz_0, e_mb51 M (by omega) (by omega) (by omega) (by omega)]; simp [dx, dy]
    · rw [bt rfl, ← li_1, lz_1, e_mb51 M (by omega) (by omega) (by omega) (by omega)]; simp [dx, dy]
    · rw [bf (c 2 1 (by omega) (by omega) (by omega)), bf (c 2 3 (by omega) (by omega) (by omega)), lz_0, e_mb51 M (by omega) (by omega) (by omega) (by omega)]; simp [dx, dy]
    · rw [bf (c 3 1 (by omega) (by omega) (by omega)), bt rfl, e_mb51 M (by omega) (by omega) (by omega) (by omega)]; simp [dx, dy]
  have hd : -1 ≤ dx s ∧ dx s ≤ 1 := by unfold dx; split <;> (try split) <;> omega
  have k24' := k24 ((k % w : Nat) + dx s) (by omega) (by omega)
  rw [Int.add_sub_cancel] at k24'
  unfold wp_Model_beside bs
  rw [mp_0 M, nI_mod (by omega) (by omega), and_iff_right hw0, li_0, li_2]
  rw [nI_z (k % w)]
  have es : s = 0 ∨ s = 1 ∨ s = 2 ∨ s = 3 := by omega
  rcases es with rfl | rfl | rfl | rfl
  · rw [bt rfl, ← k24']; rfl
  · rw [bf (c 1 0 (by omega) (by omega) (by omega)), bf (c 1 2 (by omega) (by omega) (by omega)), ← k24']; rfl
  · rw [bf (c 2 0 (by omega) (by omega) (by omega)), bt rfl, ← k24']; rfl
  · rw [bf (c 3 0 (by omega) (by omega) (by omega)), bf (c 3 2 (by omega) (by omega) (by omega)), ← k24']; rfl
theorem m_lower (M : MI w h K G) {f : Nat → Int32} {u : pS} (hf : u.2 2 = f) {L : Nat → Nat} (hL : ∀ j, j < w * h → u.2 3 j = nI (L j) ∧ L j ≤ j) {k : Nat} (hk : k < w * h) {Q : Int32 → pS → Prop}
    (hQ : ∀ m, m ≤ L k → (m = L k ∨ ∃ j, Rg w h f k j ∧ L j = m) → (∀ j, Rg w h f k j → m ≤ L j) → Q (if m < L k then 1 else 0) (pw_sa u 3 (upd (u.2 3) k (nI m)))) : wp_Model_lower G (nI k) u Q := by
  have B := mB M
  have hk3 := hL k hk
  have hvk : vp_in (nI k) 400 := vp_in_nI (by omega) (by omega)
  unfold wp_Model_lower
  refine ⟨by rw [ml_4 M]; exact hvk, ?_⟩
  intro t ht
  rw [nI_clamp (by omega), hk3.1] at ht
  suffices hs : ∀ (d s m : Nat), s + d = 4 → m ≤ L k → (m = L k ∨ ∃ j, Rg w h f k j ∧ L j = m) → (∀ s' j, s' < s → j < w * h → bs w h k s' = (j : Int) → f k = f j → m ≤ L j) → lp_Model_lower_9 G Q (d + 1) (nI k) (nI m) (nI s) u by
    refine ⟨4 + 1, ?_⟩
    rw [ht, li_0]
    exact hs 4 0 (L k) (by omega) (Nat.le_refl _) (Or.inl rfl) (fun s' j hs' => absurd hs' (Nat.not_lt_zero s'))
  intro d
  induction d with
  | zero =>
    intro s m hd h1 h2 h3
    have e : s = 4 := by omega
    unfold lp_Model_lower_9
    rw [e, li_4, ml_4 M, nI_clamp (by omega), hk3.1]
    refine b_t (nI_le (by omega) (by omega)) ⟨hvk, ?_⟩
    have hq := hQ m h1 h2 (fun j ⟨_, r2, r3, s', r4, r5⟩ => h3 s' j (by omega) r2 r5 r3)
    by_cases e2 : m < L k
    · rw [if_pos e2] at hq
      exact b_f (nI_ge e2 (by omega)) ⟨hvk, fun u4 hu4 => by rw [hu4]; exact hq⟩
    · rw [if_neg e2] at hq
      exact b_t (nI_le (by omega) (by omega)) ⟨hvk, fun u4 hu4 => by rw [hu4]; exact hq⟩
  | succ d ih =>
    intro s m hd h1 h2 h3
    unfold lp_Model_lower_9
    rw [bf (by rw [li_4]; exact nI_ge (by omega) (by omega)), e_mbes M hk (by omega)]
    simp only [forall_eq, nI_1, ml_3 M, ml_4 M]
    rcases bs_cases hk (show s < 4 by omega) with hb | ⟨j, hj, hb, _⟩
    · rw [hb, ← lz_m1]
      refine b_t (by decide) (ih (s + 1) m (by omega) h1 h2 ?_)
      intro s' j' hs' hj' hbj hff
      by_cases e : s' = s
      · rw [e, hb] at hbj; omega
      · exact h3 s' j' (by omega) hj' hbj hff
    · have hj3 := hL j hj
      rw [hb, ← nI_z, nI_clamp (n := j) (by omega), nI_clamp (n := k) (by omega), hf, hj3.1]
      refine b_f (nI_pos (by omega)) ⟨vp_in_nI (by omega) (by omega), hvk, ?_⟩
      have hstep : ∀ m', m' ≤ m → (f k = f j → m' ≤ L j) → ∀ s' j', s' < s + 1 → j' < w * h → bs w h k s' = (j' : Int) → f k = f j' → m' ≤ L j' := by
        intro m' hm' hmj s' j' hs' hj' hbj hff
        by_cases e : s' = s
        · rw [e, hb] at hbj
          have e2 : j' = j := by omega
          rw [e2] at hff ⊢
          exact hmj hff
        · exact Nat.le_trans hm' (h3 s' j' (by omega) hj' hbj hff)
      by_cases hff : f j = f k
      · rw [bt hff]
        refine ⟨vp_in_nI (by omega) (by omega), ?_⟩
        by_cases hlt : L j < m
        · exact b_f (nI_ge hlt (by omega)) ⟨vp_in_nI (by omega) (by omega), ih (s + 1) (L j) (by omega) (by omega) (Or.inr ⟨j, ⟨hk, hj, hff.symm, s, by omega, hb⟩, rfl⟩) (hstep (L j) (by omega) (fun _ => Nat.le_refl _))⟩
        · exact b_t (nI_le (by omega) (by omega)) (ih (s + 1) m (by omega) h1 h2 (hstep m (Nat.le_refl _) (fun _ => by omega)))
      · rw [bf hff]
        exact ih (s + 1) m (by omega) h1 h2 (hstep m (Nat.le_refl _) (fun q => absurd q.symm hff))
end
