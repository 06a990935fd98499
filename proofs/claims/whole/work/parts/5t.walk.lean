/-! OWN ROWS: the walk round a piece, as such. -/
def inb (w h : Nat) (fo : Nat → Nat) (a : Nat) (x y : Int) : Bool := decide (0 ≤ x ∧ x < w ∧ 0 ≤ y ∧ y < h) && (fo (y.toNat * w + x.toNat) == a)
theorem inb_inp {w h : Nat} {fo : Nat → Nat} {a : Nat} {x y : Int} : inb w h fo a x y = true ↔ inp w h fo a x y := by
  unfold inb
  simp only [Bool.and_eq_true, decide_eq_true_eq, beq_iff_eq]
  constructor
  · rintro ⟨⟨h1, h2, h3, h4⟩, h5⟩
    obtain ⟨i, rfl⟩ := Int.eq_ofNat_of_zero_le h1
    obtain ⟨j, rfl⟩ := Int.eq_ofNat_of_zero_le h3
    exact ⟨i, j, rfl, rfl, by omega, by omega, h5⟩
  · rintro ⟨i, j, rfl, rfl, h1, h2, h3⟩
    exact ⟨by omega, h3⟩
def ax (s : Nat) : Int := if s = 1 then -1 else if s = 2 then -1 else 0
def ay (s : Nat) : Int := if s = 2 then -1 else if s = 3 then -1 else 0
/-- is the place ahead and to the right in, at the crossing (x, y) towards s -/
def cc (w h : Nat) (fo : Nat → Nat) (a : Nat) (x y : Int) (s : Nat) : Bool := inb w h fo a (x + ax s) (y + ay s)
def nwf (c : Nat → Bool) (s : Nat) : Nat := if c s = false then (s + 1) % 4 else if c ((s + 3) % 4) = true then (s + 3) % 4 else s
def stp (w h : Nat) (fo : Nat → Nat) (a : Nat) (e : Int × Int × Nat) : Int × Int × Nat := (e.1 + dx e.2.2, e.2.1 + dy e.2.2, nwf (cc w h fo a (e.1 + dx e.2.2) (e.2.1 + dy e.2.2)) e.2.2)
def Eg (w h : Nat) (fo : Nat → Nat) (a : Nat) (e : Int × Int × Nat) : Prop := e.2.2 < 4 ∧ cc w h fo a e.1 e.2.1 e.2.2 = true ∧ cc w h fo a e.1 e.2.1 ((e.2.2 + 3) % 4) = false
theorem lt4 {s : Nat} (h : s < 4) : s = 0 ∨ s = 1 ∨ s = 2 ∨ s = 3 := by omega
theorem cc_1 {w h : Nat} {fo : Nat → Nat} {a : Nat} {x y : Int} {s : Nat} (hs : s < 4) : cc w h fo a (x + dx s) (y + dy s) ((s + 1) % 4) = cc w h fo a x y s := by
  unfold cc
  have e1 : x + dx s + ax ((s + 1) % 4) = x + ax s := by rcases lt4 hs with rfl | rfl | rfl | rfl <;> simp [dx, ax] <;> omega
  have e2 : y + dy s + ay ((s + 1) % 4) = y + ay s := by rcases lt4 hs with rfl | rfl | rfl | rfl <;> simp [dy, ay] <;> omega
  rw [e1, e2]
theorem cc_2 {w h : Nat} {fo : Nat → Nat} {a : Nat} {x y : Int} {s : Nat} (hs : s < 4) : cc w h fo a (x + dx s) (y + dy s) ((s + 2) % 4) = cc w h fo a x y ((s + 3) % 4) := by
  unfold cc
  have e1 : x + dx s + ax ((s + 2) % 4) = x + ax ((s + 3) % 4) := by rcases lt4 hs with rfl | rfl | rfl | rfl <;> simp [dx, ax] <;> omega
  have e2 : y + dy s + ay ((s + 2) % 4) = y + ay ((s + 3) % 4) := by rcases lt4 hs with rfl | rfl | rfl | rfl <;> simp [dy, ay] <;> omega
  rw [e1, e2]
theorem nwf_ok {c : Nat → Bool} {s : Nat} (hs : s < 4) (h1 : c ((s + 1) % 4) = true) (h2 : c ((s + 2) % 4) = false) : nwf c s < 4 ∧ c (nwf c s) = true ∧ c ((nwf c s + 3) % 4) = false := by
  unfold nwf
  split
  · rename_i h3
    refine ⟨by omega, h1, ?_⟩
    rw [show ((s + 1) % 4 + 3) % 4 = s by omega]; exact h3
  · rename_i h3
    split
    · rename_i h4
      refine ⟨by omega, h4, ?_⟩
      rw [show ((s + 3) % 4 + 3) % 4 = (s + 2) % 4 by omega]; exact h2
    · rename_i h4
      exact ⟨hs, by simpa using h3, by simpa using h4⟩
theorem Eg_stp {w h : Nat} {fo : Nat → Nat} {a : Nat} {e : Int × Int × Nat} (h0 : Eg w h fo a e) : Eg w h fo a (stp w h fo a e) := by
  obtain ⟨x, y, s⟩ := e
  obtain ⟨h1, h2, h3⟩ := h0
  dsimp only at h1 h2 h3
  exact nwf_ok (c := cc w h fo a (x + dx s) (y + dy s)) h1 (by rw [cc_1 h1]; exact h2) (by rw [cc_2 h1]; exact h3)
theorem nwf_inj {c : Nat → Bool} {s t : Nat} (hs : s < 4) (ht : t < 4) (h1 : c ((s + 1) % 4) = true) (h2 : c ((s + 2) % 4) = false) (k1 : c ((t + 1) % 4) = true) (k2 : c ((t + 2) % 4) = false) (e : nwf c s = nwf c t) : s = t := by
  unfold nwf at e
  rcases lt4 hs with rfl | rfl | rfl | rfl <;> rcases lt4 ht with rfl | rfl | rfl | rfl <;> simp at h1 h2 k1 k2 e ⊢ <;> simp [h1, h2, k1, k2] at e <;> (first | (cases c0 : c 0 <;> cases c1 : c 1 <;> cases c2 : c 2 <;> cases c3 : c 3 <;> simp_all) | skip)
theorem stp_inj {w h : Nat} {fo : Nat → Nat} {a : Nat} {d e : Int × Int × Nat} (hd : Eg w h fo a d) (he : Eg w h fo a e) (q : stp w h fo a d = stp w h fo a e) : d = e := by
  obtain ⟨x, y, s⟩ := d
  obtain ⟨x', y', t⟩ := e
  obtain ⟨h1, h2, h3⟩ := hd
  obtain ⟨k1, k2, k3⟩ := he
  dsimp only at h1 h2 h3 k1 k2 k3
  unfold stp at q
  simp only [Prod.mk.injEq] at q
  obtain ⟨q1, q2, q3⟩ := q
  have m1 : cc w h fo a (x + dx s) (y + dy s) ((s + 1) % 4) = true := by rw [cc_1 h1]; exact h2
  have m2 : cc w h fo a (x + dx s) (y + dy s) ((s + 2) % 4) = false := by rw [cc_2 h1]; exact h3
  have n1 : cc w h fo a (x' + dx t) (y' + dy t) ((t + 1) % 4) = true := by rw [cc_1 k1]; exact k2
  have n2 : cc w h fo a (x' + dx t) (y' + dy t) ((t + 2) % 4) = false := by rw [cc_2 k1]; exact k3
  rw [← q1, ← q2] at n1 n2 q3
  have e : s = t := nwf_inj h1 k1 m1 m2 n1 n2 q3
  rw [e] at q1 q2
  simp only [Prod.mk.injEq]
  exact ⟨by omega, by omega, e⟩
theorem Eg_in {w h : Nat} {fo : Nat → Nat} {a : Nat} {x y : Int} {s : Nat} (h0 : Eg w h fo a (x, y, s)) : 0 ≤ x + ax s ∧ x + ax s < w ∧ 0 ≤ y + ay s ∧ y + ay s < h := by
  have h1 := h0.2.1
  unfold cc inb at h1
  simp only [Bool.and_eq_true, decide_eq_true_eq] at h1
  exact h1.1
theorem ax_b {s : Nat} : -1 ≤ ax s ∧ ax s ≤ 0 ∧ -1 ≤ ay s ∧ ay s ≤ 0 := by
  unfold ax ay
  refine ⟨?_, ?_, ?_, ?_⟩ <;> split <;> (try split) <;> omega
theorem pigeon : ∀ (B : Nat) (g : Nat → Nat), (∀ i, i ≤ B → g i < B) → ∃ i j, i < j ∧ j ≤ B ∧ g i = g j := by
  intro B
  induction B with
  | zero => intro g hg; exact absurd (hg 0 (Nat.le_refl _)) (Nat.not_lt_zero _)
  | succ B ih =>
    intro g hg
    by_cases hex : ∃ i, i ≤ B ∧ g i = g (B + 1)
    · obtain ⟨i, hi, e⟩ := hex
      exact ⟨i, B + 1, by omega, Nat.le_refl _, e⟩
    · have hne : ∀ i, i ≤ B → g i ≠ g (B + 1) := fun i hi e => hex ⟨i, hi, e⟩
      obtain ⟨i, j, h1, h2, h3⟩ := ih (fun i => if g i < g (B + 1) then g i else g i - 1) (fun i hi => by
        have a1 := hg i (by omega)
        have a2 := hg (B + 1) (Nat.le_refl _)
        have a3 := hne i hi
        split <;> omega)
      refine ⟨i, j, h1, by omega, ?_⟩
      have b1 := hne i (by omega)
      have b2 := hne j h2
      split at h3 <;> split at h3 <;> omega
def ed (w h : Nat) (fo : Nat → Nat) (a : Nat) (e0 : Int × Int × Nat) : Nat → Int × Int × Nat
  | 0 => e0
  | n + 1 => stp w h fo a (ed w h fo a e0 n)
theorem ed_s (w h : Nat) (fo : Nat → Nat) (a : Nat) (e0 : Int × Int × Nat) (n : Nat) : ed w h fo a e0 (n + 1) = stp w h fo a (ed w h fo a e0 n) := rfl
theorem ed_Eg {w h : Nat} {fo : Nat → Nat} {a : Nat} {e0 : Int × Int × Nat} (h0 : Eg w h fo a e0) : ∀ n, Eg w h fo a (ed w h fo a e0 n) := by
  intro n
  induction n with
  | zero => exact h0
  | succ n ih => exact Eg_stp ih
theorem ed_back {w h : Nat} {fo : Nat → Nat} {a : Nat} {e0 : Int × Int × Nat} (h0 : Eg w h fo a e0) : ∀ i d, ed w h fo a e0 i = ed w h fo a e0 (i + d) → ed w h fo a e0 0 = ed w h fo a e0 d := by
  intro i
  induction i with
  | zero => intro d q; rw [Nat.zero_add] at q; exact q
  | succ i ih =>
    intro d q
    rw [show i + 1 + d = (i + d) + 1 by omega, ed_s, ed_s] at q
    exact ih d (stp_inj (ed_Eg h0 i) (ed_Eg h0 (i + d)) q)
/-- any coding of the sides below B brings the walk back within B steps -/
theorem ed_ret {w h : Nat} {fo : Nat → Nat} {a : Nat} {e0 : Int × Int × Nat} (h0 : Eg w h fo a e0) (B : Nat) (code : Int × Int × Nat → Nat) (hB : ∀ e, Eg w h fo a e → code e < B) (hinj : ∀ d e, Eg w h fo a d → Eg w h fo a e → code d = code e → d = e) : ∃ n, 1 ≤ n ∧ n ≤ B ∧ ed w h fo a e0 n = e0 := by
  obtain ⟨i, j, h1, h2, h3⟩ := pigeon B (fun i => code (ed w h fo a e0 i)) (fun i _ => hB _ (ed_Eg h0 i))
  have h4 := hinj _ _ (ed_Eg h0 i) (ed_Eg h0 j) h3
  have h5 := ed_back h0 i (j - i) (by rw [show i + (j - i) = j by omega]; exact h4)
  exact ⟨j - i, by omega, by omega, h5.symm⟩
theorem ed_ret1 {w h : Nat} {fo : Nat → Nat} {a : Nat} {e0 : Int × Int × Nat} (h0 : Eg w h fo a e0) : ∃ n, 1 ≤ n ∧ n ≤ w * h * 4 ∧ ed w h fo a e0 n = e0 := by
  refine ed_ret h0 (w * h * 4) (fun e => ((e.2.1 + ay e.2.2).toNat * w + (e.1 + ax e.2.2).toNat) * 4 + e.2.2) (fun e he => ?_) (fun d e hd he q => ?_)
  · obtain ⟨x, y, s⟩ := e
    have hi := Eg_in he
    have hs := he.1
    dsimp only at hs ⊢
    have := gr_in (w := w) (h := h) (x := (x + ax s).toNat) (y := (y + ay s).toNat) (by omega) (by omega)
    omega
  · obtain ⟨x, y, s⟩ := d
    obtain ⟨x', y', t⟩ := e
    have hi := Eg_in hd
    have hi' := Eg_in he
    have hs := hd.1
    have ht := he.1
    dsimp only at hs ht q
    have e1 : s = t := by omega
    rw [e1] at q hi
    have e2 : (y + ay t).toNat * w + (x + ax t).toNat = (y' + ay t).toNat * w + (x' + ax t).toNat := by omega
    have g1 := gr_mod (w := w) (x := (x + ax t).toNat) (y := (y + ay t).toNat) (by omega)
    have g2 := gr_mod (w := w) (x := (x' + ax t).toNat) (y := (y' + ay t).toNat) (by omega)
    have d1 := gr_div (w := w) (x := (x + ax t).toNat) (y := (y + ay t).toNat) (by omega)
    have d2 := gr_div (w := w) (x := (x' + ax t).toNat) (y := (y' + ay t).toNat) (by omega)
    rw [e2, g2] at g1
    rw [e2, d2] at d1
    simp only [Prod.mk.injEq]
    exact ⟨by omega, by omega, e1⟩
theorem ed_ret2 {w h : Nat} {fo : Nat → Nat} {a : Nat} {e0 : Int × Int × Nat} (h0 : Eg w h fo a e0) : ∃ n, 1 ≤ n ∧ n ≤ 2 * (w + 1) * (h + 1) ∧ ed w h fo a e0 n = e0 := by
  refine ed_ret h0 (2 * (w + 1) * (h + 1)) (fun e => (e.2.1.toNat * (w + 1) + e.1.toNat) * 2 + e.2.2 / 2) (fun e he => ?_) (fun d e hd he q => ?_)
  · obtain ⟨x, y, s⟩ := e
    have hi := Eg_in he
    have hb := ax_b (s := s)
    have hs := he.1
    dsimp only at hs ⊢
    have g := gr_in (w := w + 1) (h := h + 1) (x := x.toNat) (y := y.toNat) (by omega) (by omega)
    rw [Nat.mul_assoc]
    omega
  · obtain ⟨x, y, s⟩ := d
    obtain ⟨x', y', t⟩ := e
    have hi := Eg_in hd
    have hi' := Eg_in he
    have hb := ax_b (s := s)
    have hb' := ax_b (s := t)
    have hs := hd.1
    have ht := he.1
    dsimp only at hs ht q
    have e2 : y.toNat * (w + 1) + x.toNat = y'.toNat * (w + 1) + x'.toNat := by omega
    have e3 : s / 2 = t / 2 := by omega
    have g1 := gr_mod (w := w + 1) (x := x.toNat) (y := y.toNat) (by omega)
    have g2 := gr_mod (w := w + 1) (x := x'.toNat) (y := y'.toNat) (by omega)
    have d1 := gr_div (w := w + 1) (x := x.toNat) (y := y.toNat) (by omega)
    have d2 := gr_div (w := w + 1) (x := x'.toNat) (y := y'.toNat) (by omega)
    rw [e2, g2] at g1
    rw [e2, d2] at d1
    have ex : x = x' := by omega
    have ey : y = y' := by omega
    subst ex; subst ey
    have est : s = t := by
      have c1 := hd.2.1
      have c2 := hd.2.2
      have c3 := he.2.1
      have c4 := he.2.2
      dsimp only at c1 c2 c3 c4
      rcases lt4 hs with rfl | rfl | rfl | rfl <;> rcases lt4 ht with rfl | rfl | rfl | rfl <;> first | rfl | omega | (simp at c1 c2 c3 c4; simp_all)
    rw [est]
