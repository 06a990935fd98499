/-! OWN ROWS: the grid of places. -/
def pl (w h : Nat) (x y : Int) : Int := if 0 ≤ x ∧ x < w ∧ 0 ≤ y ∧ y < h then y * w + x else -1
def dx (s : Nat) : Int := if s = 0 then 1 else if s = 2 then -1 else 0
def dy (s : Nat) : Int := if s = 1 then 1 else if s = 3 then -1 else 0
/-- the place beside k on side s, or -1 -/
def bs (w h k s : Nat) : Int := pl w h ((k % w : Nat) + dx s) ((k / w : Nat) + dy s)
theorem gr_in {w h x y : Nat} (hx : x < w) (hy : y < h) : y * w + x < w * h := by
  have : (y + 1) * w ≤ h * w := Nat.mul_le_mul_right w hy
  rw [Nat.add_mul, Nat.one_mul, Nat.mul_comm h w] at this
  omega
theorem gr_mod {w x y : Nat} (hx : x < w) : (y * w + x) % w = x := by
  rw [Nat.add_comm, Nat.add_mul_mod_self_right, Nat.mod_eq_of_lt hx]
theorem gr_div {w x y : Nat} (hx : x < w) : (y * w + x) / w = y := by
  rw [Nat.add_comm, Nat.add_mul_div_right _ _ (by omega), Nat.div_eq_of_lt hx, Nat.zero_add]
theorem gr_w {w h k : Nat} (hk : k < w * h) : 0 < w ∧ 0 < h := by
  refine ⟨Nat.pos_of_ne_zero fun e => ?_, Nat.pos_of_ne_zero fun e => ?_⟩
  · rw [e, Nat.zero_mul] at hk; omega
  · rw [e, Nat.mul_zero] at hk; omega
theorem gr_x {w h k : Nat} (hk : k < w * h) : k % w < w := Nat.mod_lt _ (gr_w hk).1
theorem gr_y {w h k : Nat} (hk : k < w * h) : k / w < h := Nat.div_lt_of_lt_mul hk
theorem gr_k (w k : Nat) : k / w * w + k % w = k := Nat.div_add_mod' k w
theorem pl_at {w h x y : Nat} (hx : x < w) (hy : y < h) : pl w h x y = ((y * w + x : Nat) : Int) := by
  unfold pl
  rw [if_pos ⟨by omega, by omega, by omega, by omega⟩]
  simp
theorem pl_out {w h : Nat} {x y : Int} (hn : ¬ (0 ≤ x ∧ x < w ∧ 0 ≤ y ∧ y < h)) : pl w h x y = -1 := if_neg hn
theorem pl_cases (w h : Nat) (x y : Int) : (pl w h x y = -1 ∧ ¬ (0 ≤ x ∧ x < w ∧ 0 ≤ y ∧ y < h)) ∨ ∃ a b : Nat, a < w ∧ b < h ∧ x = a ∧ y = b ∧ b * w + a < w * h ∧ pl w h x y = ((b * w + a : Nat) : Int) := by
  by_cases hn : 0 ≤ x ∧ x < w ∧ 0 ≤ y ∧ y < h
  · right
    obtain ⟨a, rfl⟩ := Int.eq_ofNat_of_zero_le hn.1
    obtain ⟨b, rfl⟩ := Int.eq_ofNat_of_zero_le hn.2.2.1
    have ha : a < w := by omega
    have hb : b < h := by omega
    exact ⟨a, b, ha, hb, rfl, rfl, gr_in ha hb, pl_at ha hb⟩
  · exact Or.inl ⟨pl_out hn, hn⟩
theorem bs_cases {w h k s : Nat} (hk : k < w * h) (hs : s < 4) : bs w h k s = -1 ∨ ∃ j, j < w * h ∧ bs w h k s = (j : Int) ∧ bs w h j ((s + 2) % 4) = (k : Int) := by
  unfold bs
  rcases pl_cases w h ((k % w : Nat) + dx s) ((k / w : Nat) + dy s) with h1 | ⟨a, b, ha, hb, hx, hy, hj, h1⟩
  · exact Or.inl h1.1
  · refine Or.inr ⟨b * w + a, hj, h1, ?_⟩
    rw [gr_mod ha, gr_div ha]
    have hx1 := gr_x hk
    have hy1 := gr_y hk
    have e1 : (a : Int) + dx ((s + 2) % 4) = ((k % w : Nat) : Int) := by
      have : s = 0 ∨ s = 1 ∨ s = 2 ∨ s = 3 := by omega
      rcases this with rfl | rfl | rfl | rfl <;> simp [dx] at hx ⊢ <;> omega
    have e2 : (b : Int) + dy ((s + 2) % 4) = ((k / w : Nat) : Int) := by
      have : s = 0 ∨ s = 1 ∨ s = 2 ∨ s = 3 := by omega
      rcases this with rfl | rfl | rfl | rfl <;> simp [dy] at hy ⊢ <;> omega
    rw [e1, e2, pl_at hx1 hy1, gr_k]
def Rg (w h : Nat) (f : Nat → Int32) (j k : Nat) : Prop := j < w * h ∧ k < w * h ∧ f j = f k ∧ ∃ s, s < 4 ∧ bs w h j s = (k : Int)
theorem Rg_symm {w h : Nat} {f : Nat → Int32} : ∀ x y, Rg w h f x y → Rg w h f y x := by
  intro x y ⟨hx, hy, hf, s, hs, hb⟩
  refine ⟨hy, hx, hf.symm, (s + 2) % 4, by omega, ?_⟩
  rcases bs_cases hx hs with h1 | ⟨j, hj, h1, h2⟩
  · omega
  · have : j = y := by omega
    rw [← this]; exact h2
theorem bs_l {w h k : Nat} (hk : k < w * h) (h0 : 0 < k % w) : bs w h k 2 = ((k - 1 : Nat) : Int) := by
  have hx := gr_x hk
  have hy := gr_y hk
  have e := gr_k w k
  unfold bs
  have e1 : ((k % w : Nat) : Int) + dx 2 = ((k % w - 1 : Nat) : Int) := by simp [dx]; omega
  have e2 : ((k / w : Nat) : Int) + dy 2 = ((k / w : Nat) : Int) := by simp [dy]
  rw [e1, e2, pl_at (by omega) hy]
  congr 1; omega
theorem bs_u {w h k : Nat} (hk : k < w * h) (h0 : 0 < k / w) : bs w h k 3 = ((k - w : Nat) : Int) := by
  have hx := gr_x hk
  have hy := gr_y hk
  have e := gr_k w k
  unfold bs
  have e1 : ((k % w : Nat) : Int) + dx 3 = ((k % w : Nat) : Int) := by simp [dx]
  have e2 : ((k / w : Nat) : Int) + dy 3 = ((k / w - 1 : Nat) : Int) := by simp [dy]; omega
  rw [e1, e2, pl_at hx (by omega)]
  congr 1
  rw [Nat.sub_mul, Nat.one_mul]
  have : 1 * w ≤ k / w * w := Nat.mul_le_mul_right w h0
  omega
theorem gr_conn {w h : Nat} : ∀ k, k < w * h → Cn (Rg w h (fun _ => 0)) k 0 := by
  intro k
  induction k using Nat.strongRecOn with
  | _ k ih =>
    intro hk
    have e := gr_k w k
    by_cases h0 : 0 < k % w
    · have h1 : 0 < k := by omega
      exact Cn_head ⟨hk, by omega, rfl, 2, by omega, bs_l hk h0⟩ (ih (k - 1) (by omega) (by omega))
    · by_cases h2 : 0 < k / w
      · have hw := (gr_w hk).1
        have h3 : 1 * w ≤ k / w * w := Nat.mul_le_mul_right w h2
        exact Cn_head ⟨hk, by omega, rfl, 3, by omega, bs_u hk h2⟩ (ih (k - w) (by omega) (by omega))
      · have h3 : k / w = 0 := Nat.eq_zero_of_not_pos h2
        rw [h3, Nat.zero_mul] at e
        have : k = 0 := by omega
        rw [this]; exact Cn_refl _ 0
/-- between what is in P and what isn't there is a side -/
theorem gr_side {w h : Nat} {P : Nat → Bool} {a b : Nat} (ha : a < w * h) (hb : b < w * h) (h1 : P a = true) (h2 : P b = false) : ∃ j k s, j < w * h ∧ k < w * h ∧ s < 4 ∧ bs w h j s = (k : Int) ∧ P j = true ∧ P k = false := by
  apply Classical.byContradiction
  intro hn
  have h3 : Cn (Rg w h (fun _ => 0)) a b := Cn_trans (gr_conn a ha) (Cn_symm Rg_symm (gr_conn b hb))
  have h4 : P b = true := h3 (fun x => P x = true) h1 (fun x y hx ⟨q1, q2, _, s, q3, q4⟩ => by
    cases e : P y with
    | true => rfl
    | false => exact absurd ⟨x, y, s, q1, q2, q3, q4, hx, e⟩ hn)
  rw [h2] at h4; cases h4
