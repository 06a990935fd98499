/-! OWN ROWS: ranking, as such. -/
theorem nI_dec (s : Nat) : nI (s + 1) + (-1) = nI s := by
  rw [nI_z, nI_z s, lz_m1, zI_add]; congr 1; omega
def bef (lt : Nat → Nat → Bool) (a b : Nat) : Bool := lt a b || (!lt b a && decide (a < b))
def Ord (bf : Nat → Nat → Bool) (n : Nat) : Prop := (∀ a, a < n → bf a a = false) ∧ ∀ a b c, a < n → b < n → c < n → bf a b = true → bf b c = true → bf a c = true
/-- row ranks the numbers below n -/
def Rk (bf : Nat → Nat → Bool) (n : Nat) (row : Nat → Nat) : Prop := (∀ k, k < n → row k < n) ∧ (∀ P : Nat → Bool, cnt (fun j => P (row j)) n = cnt P n) ∧ ∀ i j, i < j → j < n → bf (row i) (row j) = true
def ins (row : Nat → Nat) (s m j : Nat) : Nat := if j < s then row j else if j = s then m else row (j - 1)
theorem ins_cnt (row : Nat → Nat) (x : Nat) (P : Nat → Bool) : ∀ (d s : Nat), cnt (fun j => P (ins row s x j)) (s + d + 1) = cnt (fun j => P (row j)) (s + d) + (if P x then 1 else 0) := by
  intro d
  induction d with
  | zero =>
    intro s
    rw [cnt_s]
    have e : ins row s x s = x := by unfold ins; rw [if_neg (by omega), if_pos (by omega)]
    rw [Nat.add_zero, e, cnt_congr (Q := fun j => P (row j)) (fun j hj => by unfold ins; rw [if_pos (by omega)])]
  | succ d ih =>
    intro s
    have e : ins row s x (s + (d + 1)) = row (s + d) := by
      unfold ins; rw [if_neg (by omega), if_neg (by omega)]; congr 1
    rw [show s + (d + 1) = (s + d) + 1 by omega] at e ⊢
    rw [cnt_s (fun j => P (ins row s x j)) (s + d + 1), ih s, cnt_s (fun j => P (row j)) (s + d), e]
    omega
theorem Rk_0 (bf : Nat → Nat → Bool) (row : Nat → Nat) : Rk bf 0 row := ⟨fun k hk => absurd hk (Nat.not_lt_zero k), fun _ => rfl, fun i j _ h => absurd h (Nat.not_lt_zero j)⟩
theorem Rk_ins {lt : Nat → Nat → Bool} {n m s : Nat} {row : Nat → Nat} (hO : Ord (bef lt) n) (hm : m < n) (R : Rk (bef lt) m row) (hs : s ≤ m) (h1 : ∀ j, s ≤ j → j < m → lt m (row j) = true) (h2 : s = 0 ∨ lt m (row (s - 1)) = false) : Rk (bef lt) (m + 1) (ins row s m) := by
  have hlow : ∀ i, i < s → bef lt (row i) m = true := by
    intro i hi
    have hs1 : bef lt (row (s - 1)) m = true := by
      rcases h2 with h2 | h2
      · omega
      · have := R.1 (s - 1) (by omega)
        unfold bef
        rw [h2]
        simp [this]
    by_cases e : i = s - 1
    · rw [e]; exact hs1
    · have a1 := R.1 i (by omega)
      have a2 := R.1 (s - 1) (by omega)
      exact hO.2 (row i) (row (s - 1)) m (by omega) (by omega) hm (R.2.2 i (s - 1) (by omega) (by omega)) hs1
  have hhigh : ∀ j, s ≤ j → j < m → bef lt m (row j) = true := by
    intro j h3 h4
    unfold bef
    rw [h1 j h3 h4]; simp
  refine ⟨fun k hk => ?_, fun P => ?_, fun i j hij hj => ?_⟩
  · unfold ins
    split
    · have := R.1 k (by omega); omega
    · split
      · omega
      · have := R.1 (k - 1) (by omega); omega
  · obtain ⟨d, hd⟩ : ∃ d, m = s + d := ⟨m - s, by omega⟩
    have := ins_cnt row m P d s
    rw [← hd] at this
    rw [this, R.2.1 P, cnt_s]
  · unfold ins
    by_cases e1 : j < s
    · rw [if_pos (show i < s by omega), if_pos e1]; exact R.2.2 i j hij (by omega)
    · rw [if_neg e1]
      by_cases e2 : j = s
      · rw [if_pos e2, if_pos (show i < s by omega)]; exact hlow i (by omega)
      · rw [if_neg e2]
        by_cases e3 : i < s
        · rw [if_pos e3]; exact R.2.2 i (j - 1) (by omega) (by omega)
        · rw [if_neg e3]
          by_cases e4 : i = s
          · rw [if_pos e4]; exact hhigh (j - 1) (by omega) (by omega)
          · rw [if_neg e4]; exact R.2.2 (i - 1) (j - 1) (by omega) (by omega)
theorem cnt_ltk (n k : Nat) (h : k ≤ n) : cnt (fun j => decide (j < k)) n = k := by
  induction n with
  | zero => have : k = 0 := by omega
            rw [this]; rfl
  | succ n ih =>
    by_cases e : k = n + 1
    · rw [cnt_congr (Q := fun _ => true) (fun j hj => by simp; omega), e]
      have : ∀ m, cnt (fun _ => true) m = m := by
        intro m
        induction m with
        | zero => rfl
        | succ m ih2 => rw [cnt_s, ih2]; rfl
      exact this (n + 1)
    · rw [cnt_s, ih (by omega)]
      have : decide (n < k) = false := by simp; omega
      rw [this]; rfl
theorem Rk_cnt {bf : Nat → Nat → Bool} {n k : Nat} {row : Nat → Nat} (hO : Ord bf n) (R : Rk bf n row) (hk : k < n) : cnt (fun b => bf b (row k)) n = k := by
  rw [← R.2.1 (fun b => bf b (row k))]
  rw [cnt_congr (Q := fun j => decide (j < k)) (fun j hj => ?_)]
  · exact cnt_ltk n k (by omega)
  · by_cases e : j < k
    · rw [R.2.2 j k e hk]; simp [e]
    · simp only [e, decide_false]
      by_cases e2 : j = k
      · rw [e2]; exact hO.1 _ (R.1 k hk)
      · cases e3 : bf (row j) (row k) with
        | false => rfl
        | true =>
          have h1 := R.2.2 k j (by omega) hj
          have h2 := hO.2 _ _ _ (R.1 k hk) (R.1 j hj) (R.1 k hk) h1 e3
          rw [hO.1 _ (R.1 k hk)] at h2
          exact absurd h2 (by decide)
theorem Rk_surj {bf : Nat → Nat → Bool} {n a : Nat} {row : Nat → Nat} (R : Rk bf n row) (ha : a < n) : ∃ k, k < n ∧ row k = a := by
  have h1 : 0 < cnt (fun j => row j == a) n := by
    rw [R.2.1 (fun b => b == a)]
    exact cnt_pos ha (by simp)
  obtain ⟨k, hk, hp, _⟩ := cnt_ex h1
  exact ⟨k, hk, by simpa using hp⟩
theorem Rk_inj {bf : Nat → Nat → Bool} {n i j : Nat} {row : Nat → Nat} (hO : Ord bf n) (R : Rk bf n row) (hi : i < n) (hj : j < n) (e : row i = row j) : i = j := by
  have h1 := Rk_cnt hO R hi
  have h2 := Rk_cnt hO R hj
  rw [e] at h1; omega
