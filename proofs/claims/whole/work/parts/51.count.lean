/-! OWN ROWS: counting; what hangs together; firsts. -/
def cnt (P : Nat → Bool) : Nat → Nat
  | 0 => 0
  | n + 1 => cnt P n + (if P n then 1 else 0)
theorem cnt_s (P : Nat → Bool) (n : Nat) : cnt P (n + 1) = cnt P n + (if P n then 1 else 0) := rfl
theorem cnt_le (P : Nat → Bool) (n : Nat) : cnt P n ≤ n := by
  induction n with
  | zero => exact Nat.le_refl 0
  | succ n ih => rw [cnt_s]; split <;> omega
theorem cnt_congr {P Q : Nat → Bool} {n : Nat} (h : ∀ k, k < n → P k = Q k) : cnt P n = cnt Q n := by
  induction n with
  | zero => rfl
  | succ n ih => rw [cnt_s, cnt_s, ih (fun k hk => h k (by omega)), h n (by omega)]
theorem cnt_lt {P : Nat → Bool} {n k : Nat} (hk : k < n) (h : P k = false) : cnt P n < n := by
  induction n with
  | zero => omega
  | succ n ih =>
    rw [cnt_s]
    have h1 := cnt_le P n
    by_cases e : k = n
    · subst e; rw [h]; simp only [Bool.false_eq_true, if_false]; omega
    · have := ih (by omega); split <;> omega
theorem cnt_upd {P Q : Nat → Bool} {n k : Nat} (hk : k < n) (h : P k = false) (h2 : Q k = true) (h3 : ∀ j, j < n → j ≠ k → Q j = P j) : cnt Q n = cnt P n + 1 := by
  induction n with
  | zero => omega
  | succ n ih =>
    rw [cnt_s, cnt_s]
    by_cases e : k = n
    · subst e
      rw [h, h2, cnt_congr (fun j hj => h3 j (by omega) (by omega))]
      simp only [Bool.false_eq_true, if_false, if_true]
    · rw [ih (by omega) (fun j hj => h3 j (by omega)), h3 n (by omega) (by omega)]; omega
theorem cnt_mono {P : Nat → Bool} {k n : Nat} (h : k ≤ n) : cnt P k ≤ cnt P n := by
  induction n with
  | zero => have : k = 0 := by omega
            rw [this]; exact Nat.le_refl _
  | succ n ih =>
    by_cases e : k = n + 1
    · rw [e]; exact Nat.le_refl _
    · have := ih (by omega); rw [cnt_s]; omega
theorem cnt_at {P : Nat → Bool} {k n : Nat} (h : k < n) (hP : P k = true) : cnt P k < cnt P n := by
  have h1 : cnt P (k + 1) ≤ cnt P n := cnt_mono h
  rw [cnt_s, hP] at h1
  simp only [if_true] at h1
  omega
theorem cnt_inj {P : Nat → Bool} {a b : Nat} (ha : P a = true) (hb : P b = true) (h : cnt P a = cnt P b) : a = b := by
  rcases Nat.lt_trichotomy a b with h1 | h1 | h1
  · have := cnt_at h1 ha; omega
  · exact h1
  · have := cnt_at h1 hb; omega
theorem cnt_ex {P : Nat → Bool} {n p : Nat} (h : p < cnt P n) : ∃ k, k < n ∧ P k = true ∧ cnt P k = p := by
  induction n with
  | zero => exact absurd h (Nat.not_lt_zero p)
  | succ n ih =>
    rw [cnt_s] at h
    by_cases e : p < cnt P n
    · obtain ⟨k, h1, h2, h3⟩ := ih e
      exact ⟨k, by omega, h2, h3⟩
    · by_cases hp : P n = true
      · rw [hp] at h; simp only [if_true] at h; exact ⟨n, by omega, hp, by omega⟩
      · have hp2 : P n = false := by simpa using hp
        rw [hp2] at h; simp only [Bool.false_eq_true, if_false] at h; omega
theorem cnt_sub {P Q : Nat → Bool} {n : Nat} (h : ∀ k, k < n → P k = true → Q k = true) : cnt P n ≤ cnt Q n := by
  induction n with
  | zero => exact Nat.le_refl 0
  | succ n ih =>
    rw [cnt_s, cnt_s]
    have h1 := ih (fun k hk => h k (by omega))
    by_cases hp : P n = true
    · rw [hp, h n (by omega) hp]; omega
    · rw [if_neg hp]; omega
theorem cnt_ssub {P Q : Nat → Bool} {n : Nat} (h : ∀ k, k < n → P k = true → Q k = true) {k : Nat} (hk : k < n) (h1 : P k = false) (h2 : Q k = true) : cnt P n < cnt Q n := by
  have h3 : cnt (fun j => P j || j == k) n ≤ cnt Q n := cnt_sub (fun j hj hp => by
    by_cases e : j = k
    · rw [e]; exact h2
    · exact h j hj (by simpa [e] using hp))
  have h4 : cnt (fun j => P j || j == k) n = cnt P n + 1 := cnt_upd hk h1 (by simp) (fun j _ hj => by simp [hj])
  omega
theorem cnt_part (P Q : Nat → Bool) (n : Nat) : cnt P n = cnt (fun k => P k && Q k) n + cnt (fun k => P k && !Q k) n := by
  induction n with
  | zero => rfl
  | succ n ih =>
    rw [cnt_s, cnt_s, cnt_s, ih]
    cases P n <;> cases Q n <;> simp <;> omega
theorem cnt_0 {P : Nat → Bool} {n : Nat} (h : ∀ k, k < n → P k = false) : cnt P n = 0 := by
  induction n with
  | zero => rfl
  | succ n ih => rw [cnt_s, ih (fun k hk => h k (by omega)), h n (by omega)]; rfl
theorem cnt_pos {P : Nat → Bool} {n k : Nat} (hk : k < n) (h : P k = true) : 0 < cnt P n := by
  have := cnt_at hk h; omega
theorem least {P : Nat → Prop} : ∀ n, P n → ∃ m, P m ∧ m ≤ n ∧ ∀ j, P j → m ≤ j := by
  intro n
  induction n using Nat.strongRecOn with
  | _ n ih =>
    intro h
    by_cases e : ∃ j, j < n ∧ P j
    · obtain ⟨j, h1, h2⟩ := e
      obtain ⟨m, h3, h4, h5⟩ := ih j h1 h2
      exact ⟨m, h3, by omega, h5⟩
    · exact ⟨n, h, Nat.le_refl n, fun j hj => Nat.le_of_not_lt (fun q => e ⟨j, q, hj⟩)⟩
/-- b is reached from a by steps of R -/
def Cn (R : Nat → Nat → Prop) (a b : Nat) : Prop := ∀ P : Nat → Prop, P a → (∀ x y, P x → R x y → P y) → P b
theorem Cn_refl (R : Nat → Nat → Prop) (a : Nat) : Cn R a a := fun _ h _ => h
theorem Cn_step {R : Nat → Nat → Prop} {a b c : Nat} (h : Cn R a b) (h2 : R b c) : Cn R a c := fun P h0 hs => hs b c (h P h0 hs) h2
theorem Cn_trans {R : Nat → Nat → Prop} {a b c : Nat} (h : Cn R a b) (h2 : Cn R b c) : Cn R a c := h2 (fun x => Cn R a x) h (fun _ _ h3 h4 => Cn_step h3 h4)
theorem Cn_head {R : Nat → Nat → Prop} {a b c : Nat} (h : R a b) (h2 : Cn R b c) : Cn R a c := Cn_trans (Cn_step (Cn_refl R a) h) h2
theorem Cn_symm {R : Nat → Nat → Prop} (hR : ∀ x y, R x y → R y x) {a b : Nat} (h : Cn R a b) : Cn R b a :=
  h (fun x => Cn R x a) (Cn_refl R a) (fun x y h1 h2 => Cn_head (hR x y h2) h1)
theorem Cn_mono {R S : Nat → Nat → Prop} (hR : ∀ x y, R x y → S x y) {a b : Nat} (h : Cn R a b) : Cn S a b :=
  h (fun x => Cn S a x) (Cn_refl S a) (fun x y h1 h2 => Cn_step h1 (hR x y h2))
/-- fo k is the first place that hangs together with k -/
def IsFo (R : Nat → Nat → Prop) (N : Nat) (fo : Nat → Nat) : Prop := (∀ k, k < N → fo k ≤ k ∧ Cn R k (fo k)) ∧ (∀ j k, R j k → fo j = fo k)
theorem fo_cn {R : Nat → Nat → Prop} {N : Nat} {fo : Nat → Nat} (h : IsFo R N fo) {j k : Nat} (hc : Cn R j k) : fo j = fo k :=
  hc (fun x => fo j = fo x) rfl (fun x y h1 h2 => h1.trans (h.2 x y h2))
theorem fo_le {R : Nat → Nat → Prop} {N : Nat} {fo : Nat → Nat} (h : IsFo R N fo) {k : Nat} (hk : k < N) : fo k ≤ k := (h.1 k hk).1
theorem fo_fo {R : Nat → Nat → Prop} {N : Nat} {fo : Nat → Nat} (h : IsFo R N fo) {k : Nat} (hk : k < N) : fo (fo k) = fo k := (fo_cn h (h.1 k hk).2).symm
theorem fo_uniq {R : Nat → Nat → Prop} {N : Nat} {f g : Nat → Nat} (hf : IsFo R N f) (hg : IsFo R N g) {k : Nat} (hk : k < N) : f k = g k := by
  have a1 := hf.1 k hk
  have a2 := hg.1 k hk
  have b1 : f k = f (g k) := fo_cn hf a2.2
  have b2 : g k = g (f k) := fo_cn hg a1.2
  have c1 := fo_le hf (k := g k) (by omega)
  have c2 := fo_le hg (k := f k) (by omega)
  omega
theorem fo_ex (R : Nat → Nat → Prop) (N : Nat) (hR : ∀ x y, R x y → R y x) : ∃ fo, IsFo R N fo := by
  have h : ∀ k, ∃ m, Cn R k m ∧ m ≤ k ∧ ∀ j, Cn R k j → m ≤ j := fun k => least (P := fun j => Cn R k j) k (Cn_refl R k)
  refine ⟨fun k => Classical.choose (h k), fun k _ => ?_, fun j k hjk => ?_⟩
  · have := Classical.choose_spec (h k)
    exact ⟨this.2.1, this.1⟩
  · have h1 := Classical.choose_spec (h j)
    have h2 := Classical.choose_spec (h k)
    have h3 := h1.2.2 _ (Cn_head hjk h2.1)
    have h4 := h2.2.2 _ (Cn_head (hR j k hjk) h1.1)
    exact Nat.le_antisymm h3 h4
theorem fo_same {R : Nat → Nat → Prop} {N : Nat} {fo : Nat → Nat} (hR : ∀ x y, R x y → R y x) (h : IsFo R N fo) {j k : Nat} (hj : j < N) (hk : k < N) (e : fo j = fo k) : Cn R j k :=
  Cn_trans (h.1 j hj).2 (by rw [e]; exact Cn_symm hR (h.1 k hk).2)
def fx (fo : Nat → Nat) (k : Nat) : Bool := fo k == k
theorem fx_t {fo : Nat → Nat} {k : Nat} : fx fo k = true ↔ fo k = k := by unfold fx; exact beq_iff_eq
theorem fx_f {fo : Nat → Nat} {k : Nat} : fx fo k = false ↔ fo k ≠ k := by unfold fx; exact beq_eq_false_iff_ne
/-- F lists the firsts in their order, c of them -/
def Enu (fo : Nat → Nat) (N c : Nat) (F : Nat → Nat) : Prop := c = cnt (fx fo) N ∧ ∀ k, k < N → fo k = k → F (cnt (fx fo) k) = k
theorem Enu_F {fo : Nat → Nat} {N c : Nat} {F : Nat → Nat} (h : Enu fo N c F) {p : Nat} (hp : p < c) : F p < N ∧ fo (F p) = F p ∧ cnt (fx fo) (F p) = p := by
  obtain ⟨hc, hF⟩ := h
  obtain ⟨k, h1, h2, h3⟩ := cnt_ex (P := fx fo) (n := N) (p := p) (by omega)
  have h4 := hF k h1 (fx_t.mp h2)
  rw [h3] at h4
  rw [h4]
  exact ⟨h1, fx_t.mp h2, h3⟩
theorem Enu_lt {fo : Nat → Nat} {N c : Nat} {F : Nat → Nat} (h : Enu fo N c F) {k : Nat} (hk : k < N) (e : fo k = k) : cnt (fx fo) k < c := by
  rw [h.1]; exact cnt_at hk (fx_t.mpr e)
theorem Enu_mono {fo : Nat → Nat} {N c : Nat} {F : Nat → Nat} (h : Enu fo N c F) {p q : Nat} (hq : q < c) (hpq : p < q) : F p < F q := by
  have h1 := Enu_F h (p := p) (by omega)
  have h2 := Enu_F h hq
  rcases Nat.lt_or_ge (F p) (F q) with h3 | h3
  · exact h3
  · have := cnt_mono (P := fx fo) h3; omega
theorem Enu_inj {fo : Nat → Nat} {N c : Nat} {F : Nat → Nat} (h : Enu fo N c F) {p q : Nat} (hp : p < c) (hq : q < c) (e : F p = F q) : p = q := by
  have h1 := Enu_F h hp
  have h2 := Enu_F h hq
  rw [e] at h1; omega
theorem Enu_num {R : Nat → Nat → Prop} {fo : Nat → Nat} {N c : Nat} {F : Nat → Nat} (hf : IsFo R N fo) (h : Enu fo N c F) {k : Nat} (hk : k < N) : cnt (fx fo) (fo k) < c ∧ F (cnt (fx fo) (fo k)) = fo k := by
  have h1 := fo_le hf hk
  have h2 := fo_fo hf hk
  exact ⟨Enu_lt h (by omega) h2, h.2 _ (by omega) h2⟩
theorem Enu_uniq {fo : Nat → Nat} {N c c' : Nat} {F F' : Nat → Nat} (h : Enu fo N c F) (h' : Enu fo N c' F') : c = c' ∧ ∀ p, p < c → F p = F' p := by
  have hc : c = c' := h.1.trans h'.1.symm
  refine ⟨hc, fun p hp => ?_⟩
  have h1 := Enu_F h hp
  have h2 := h'.2 _ h1.1 h1.2.1
  rw [h1.2.2] at h2
  exact h2.symm
