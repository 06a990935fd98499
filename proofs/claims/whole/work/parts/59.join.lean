/-! OWN ROWS: joining, as such. -/
def amin (g : Nat → Nat) (n b : Nat) : Prop := b < n ∧ (∀ p, p < n → g b ≤ g p) ∧ ∀ p, p < b → g b < g p
def amax (g : Nat → Nat) (n b : Nat) : Prop := b < n ∧ (∀ p, p < n → g p ≤ g b) ∧ ∀ p, p < b → g p < g b
theorem amin_u {g : Nat → Nat} {n b b' : Nat} (h : amin g n b) (h' : amin g n b') : b = b' := by
  rcases Nat.lt_trichotomy b b' with e | e | e
  · have := h'.2.2 b e; have := h.2.1 b' h'.1; omega
  · exact e
  · have := h.2.2 b' e; have := h'.2.1 b h.1; omega
theorem amax_u {g : Nat → Nat} {n b b' : Nat} (h : amax g n b) (h' : amax g n b') : b = b' := by
  rcases Nat.lt_trichotomy b b' with e | e | e
  · have := h'.2.2 b e; have := h.2.1 b' h'.1; omega
  · exact e
  · have := h.2.2 b' e; have := h'.2.1 b h.1; omega
theorem cnt_skip {P : Nat → Bool} {n m : Nat} (hnm : n ≤ m) (h : ∀ i, n ≤ i → i < m → P i = false) : cnt P m = cnt P n := by
  induction m with
  | zero => have : n = 0 := by omega
            rw [this]
  | succ m ih =>
    by_cases e : n = m + 1
    · rw [e]
    · rw [cnt_s, ih (by omega) (fun i h1 h2 => h i h1 (by omega)), h m (by omega) (by omega)]; rfl
/-- side i % 4 of the place i / 4 of the piece of a is one with the piece of b -/
def sd (w h : Nat) (fo : Nat → Nat) (a b i : Nat) : Bool := (fo (i / 4) == a) && (decide (0 ≤ bs w h (i / 4) (i % 4)) && (!(fo (bs w h (i / 4) (i % 4)).toNat == a) && (fo (bs w h (i / 4) (i % 4)).toNat == b)))
theorem sd_at {w h : Nat} {fo : Nat → Nat} {a b k s : Nat} (hs : s < 4) : sd w h fo a b (4 * k + s) = ((fo k == a) && (decide (0 ≤ bs w h k s) && (!(fo (bs w h k s).toNat == a) && (fo (bs w h k s).toNat == b)))) := by
  have e1 : (4 * k + s) / 4 = k := by omega
  have e2 : (4 * k + s) % 4 = s := by omega
  unfold sd
  rw [e1, e2]
def sz (fo : Nat → Nat) (N k : Nat) : Nat := cnt (fun j => fo j == k) N
def PS (w h : Nat) (f : Nat → Int32) (fo F : Nat → Nat) (c : Nat) : Prop := IsFo (Rg w h f) (w * h) fo ∧ Enu fo (w * h) c F ∧ 0 < c
theorem Enu_ex (fo : Nat → Nat) (N : Nat) : ∃ F, Enu fo N (cnt (fx fo) N) F := by
  refine ⟨fun p => if hp : p < cnt (fx fo) N then Classical.choose (cnt_ex hp) else 0, rfl, fun k hk e => ?_⟩
  have hp : cnt (fx fo) k < cnt (fx fo) N := cnt_at hk (fx_t.mpr e)
  show (if hp : cnt (fx fo) k < cnt (fx fo) N then Classical.choose (cnt_ex hp) else 0) = k
  rw [dif_pos hp]
  have hs := Classical.choose_spec (cnt_ex hp)
  exact cnt_inj hs.2.1 (fx_t.mpr e) hs.2.2
theorem PS_ex {w h : Nat} (hN : 0 < w * h) (f : Nat → Int32) : ∃ fo F c, PS w h f fo F c := by
  obtain ⟨fo, hfo⟩ := fo_ex (Rg w h f) (w * h) Rg_symm
  obtain ⟨F, hF⟩ := Enu_ex fo (w * h)
  refine ⟨fo, F, _, hfo, hF, ?_⟩
  have h0 := fo_le hfo hN
  exact cnt_pos hN (fx_t.mpr (by omega))
theorem Rg_congr {w h : Nat} {f g : Nat → Int32} (e : ∀ k, k < w * h → f k = g k) : Rg w h f = Rg w h g := by
  funext j k
  apply propext
  unfold Rg
  constructor
  · rintro ⟨h1, h2, h3, h4⟩
    exact ⟨h1, h2, by rw [← e j h1, ← e k h2]; exact h3, h4⟩
  · rintro ⟨h1, h2, h3, h4⟩
    exact ⟨h1, h2, by rw [e j h1, e k h2]; exact h3, h4⟩
theorem amin_ex (g : Nat → Nat) {n : Nat} (hn : 0 < n) : ∃ b, amin g n b := by
  obtain ⟨m, ⟨p, hp, hpm⟩, _, hmin⟩ := least (P := fun v => ∃ p, p < n ∧ g p = v) (g 0) ⟨0, hn, rfl⟩
  obtain ⟨b, ⟨hb, hbm⟩, _, hbmin⟩ := least (P := fun q => q < n ∧ g q = m) p ⟨hp, hpm⟩
  refine ⟨b, hb, fun q hq => ?_, fun q hq => ?_⟩
  · rw [hbm]; exact hmin (g q) ⟨q, hq, rfl⟩
  · have h1 := hmin (g q) ⟨q, by omega, rfl⟩
    rw [hbm]
    rcases Nat.lt_or_ge m (g q) with h2 | h2
    · exact h2
    · have := hbmin q ⟨by omega, by omega⟩; omega
def sh (w h : Nat) (fo : Nat → Nat) (a b : Nat) : Nat := cnt (sd w h fo a b) (4 * (w * h))
/-- f becomes f' by joining the smallest piece -/
def JStep (w h le : Nat) (f f' : Nat → Int32) : Prop := ∃ fo F c s b, PS w h f fo F c ∧ 1 < c ∧ amin (fun p => sz fo (w * h) (F p)) c s ∧ sz fo (w * h) (F s) < le ∧ amax (fun p => sh w h fo (F s) (F p)) c b ∧ ∀ k, k < w * h → f' k = if fo k = F s then f (F b) else f k
def JEnd (w h le : Nat) (f : Nat → Int32) : Prop := ∃ fo F c s, PS w h f fo F c ∧ amin (fun p => sz fo (w * h) (F p)) c s ∧ ¬ (1 < c ∧ sz fo (w * h) (F s) < le)
def JRun (w h le : Nat) : Nat → (Nat → Int32) → (Nat → Int32) → Prop
  | 0 => fun f g => (∀ k, k < w * h → f k = g k) ∧ JEnd w h le g
  | n + 1 => fun f g => ∃ f', JStep w h le f f' ∧ JRun w h le n f' g
theorem sh_nfix {w h : Nat} {f : Nat → Int32} {fo : Nat → Nat} (hfo : IsFo (Rg w h f) (w * h) fo) {a k : Nat} (hk : fo k ≠ k) : sh w h fo a k = 0 := by
  refine cnt_0 (fun i hi => ?_)
  have e : 4 * (i / 4) + i % 4 = i := by omega
  rw [← e, sd_at (by omega)]
  rcases bs_cases (w := w) (h := h) (show i / 4 < w * h by omega) (show i % 4 < 4 by omega) with hb | ⟨j, hj, hb, _⟩
  · rw [hb]; simp
  · rw [hb, Int.toNat_natCast]
    by_cases e2 : fo j = k
    · have := fo_fo hfo hj
      rw [e2] at this
      exact absurd this hk
    · have : (fo j == k) = false := beq_eq_false_iff_ne.mpr e2
      rw [this]; simp
/-- the most shared piece, told by its first place -/
theorem amax_place {w h : Nat} {f : Nat → Int32} {fo F : Nat → Nat} {c a b : Nat} (P : PS w h f fo F c) (hb : amax (fun p => sh w h fo a (F p)) c b) : amax (fun k => sh w h fo a k) (w * h) (F b) := by
  obtain ⟨hfo, hE, hc⟩ := P
  have hFb := Enu_F hE hb.1
  have key : ∀ k, k < w * h → (fo k = k ∧ ∃ q, q < c ∧ F q = k) ∨ sh w h fo a k = 0 := by
    intro k hk
    by_cases e : fo k = k
    · exact Or.inl ⟨e, _, Enu_lt hE hk e, hE.2 k hk e⟩
    · exact Or.inr (sh_nfix hfo e)
  refine ⟨hFb.1, fun k hk => ?_, fun k hk => ?_⟩
  · rcases key k hk with ⟨_, q, hq, rfl⟩ | h0
    · exact hb.2.1 q hq
    · show sh w h fo a k ≤ _
      omega
  · rcases key k (by omega) with ⟨_, q, hq, rfl⟩ | h0
    · have hqb : q < b := by
        rcases Nat.lt_or_ge q b with h1 | h1
        · exact h1
        · by_cases e : q = b
          · rw [e] at hk; omega
          · have := Enu_mono hE hq (show b < q by omega); omega
      exact hb.2.2 q hqb
    · show sh w h fo a k < sh w h fo a (F b)
      rw [h0]
      have hb0 : 0 < b := by
        rcases Nat.eq_zero_or_pos b with e | e
        · have h00 : (0 : Nat) < w * h := by omega
          have h01 := fo_le hfo h00
          have h02 := hE.2 0 h00 (by omega)
          have : cnt (fx fo) 0 = 0 := rfl
          rw [this] at h02
          rw [e, h02] at hk; omega
        · exact e
      have := hb.2.2 0 hb0
      have h3 : sh w h fo a (F 0) < sh w h fo a (F b) := this
      omega
theorem jn_pos {w h : Nat} {f : Nat → Int32} {fo F : Nat → Nat} {c s b : Nat} (P : PS w h f fo F c) (hc : 1 < c) (hs : s < c) (hb : amax (fun p => sh w h fo (F s) (F p)) c b) : 0 < sh w h fo (F s) (F b) := by
  obtain ⟨hfo, hE, _⟩ := P
  have hFs := Enu_F hE hs
  obtain ⟨q, hq, hqs⟩ : ∃ q, q < c ∧ q ≠ s := by
    by_cases e : s = 0
    · exact ⟨1, by omega, by omega⟩
    · exact ⟨0, by omega, by omega⟩
  have hFq := Enu_F hE hq
  have hne : F q ≠ F s := fun e => hqs (Enu_inj hE hq hs e)
  obtain ⟨j, k, t, hj, hk, ht, hbs, hPj, hPk⟩ := gr_side (P := fun x => fo x == F s) hFs.1 hFq.1 (by rw [hFs.2.1]; simp) (by rw [hFq.2.1]; exact beq_eq_false_iff_ne.mpr hne)
  have hnum := Enu_num hfo hE hk
  have h1 : 0 < sh w h fo (F s) (fo k) := by
    refine cnt_pos (k := 4 * j + t) (by omega) ?_
    rw [sd_at ht, hbs, Int.toNat_natCast, hPj]
    have hPk' : (fo k == F s) = false := hPk
    rw [hPk']
    simp
  have h2 : sh w h fo (F s) (F (cnt (fx fo) (fo k))) ≤ sh w h fo (F s) (F b) := hb.2.1 _ hnum.1
  rw [hnum.2] at h2
  omega
theorem jn_dec {w h le : Nat} {f f' : Nat → Int32} {fo F : Nat → Nat} {c s b : Nat} (P : PS w h f fo F c) (hc : 1 < c) (hs : s < c) (hb : amax (fun p => sh w h fo (F s) (F p)) c b) (hf' : ∀ k, k < w * h → f' k = if fo k = F s then f (F b) else f k) {fo' : Nat → Nat} (hfo' : IsFo (Rg w h f') (w * h) fo') : cnt (fx fo') (w * h) < c := by
  have hpos := jn_pos P hc hs hb
  obtain ⟨hfo, hE, _⟩ := P
  have hFs := Enu_F hE hs
  have hFb := Enu_F hE hb.1
  have hsub : ∀ x y, Rg w h f x y → Rg w h f' x y := by
    intro x y r
    have e := hfo.2 x y r
    obtain ⟨r1, r2, r3, r4⟩ := r
    refine ⟨r1, r2, ?_, r4⟩
    rw [hf' x r1, hf' y r2, e, r3]
  have hfix : ∀ k, k < w * h → fo' k = k → fo k = k := by
    intro k hk e
    have h1 := hfo.1 k hk
    have h2 : fo' k = fo' (fo k) := fo_cn hfo' (Cn_mono hsub h1.2)
    have h3 := fo_le hfo' (k := fo k) (by omega)
    omega
  obtain ⟨i, hi, hsd, _⟩ := cnt_ex (P := sd w h fo (F s) (F b)) (n := 4 * (w * h)) (p := 0) hpos
  have ei : 4 * (i / 4) + i % 4 = i := by omega
  have hk0 : i / 4 < w * h := by omega
  rw [← ei, sd_at (by omega)] at hsd
  rcases bs_cases hk0 (show i % 4 < 4 by omega) with hbn | ⟨j, hj, hbj, _⟩
  · rw [hbn] at hsd; simp at hsd
  · rw [hbj, Int.toNat_natCast] at hsd
    simp only [Bool.and_eq_true, beq_iff_eq, Bool.not_eq_true', beq_eq_false_iff_ne] at hsd
    obtain ⟨s1, _, s2, s3⟩ := hsd
    have hfj : f j = f (F b) := Cn_f (fo_same Rg_symm hfo hj hFb.1 (by rw [s3, hFb.2.1]))
    have r' : Rg w h f' (i / 4) j := by
      refine ⟨hk0, hj, ?_, i % 4, by omega, hbj⟩
      rw [hf' _ hk0, if_pos s1, hf' j hj, if_neg s2, hfj]
    have c1 : Cn (Rg w h f') (F s) (F b) := by
      refine Cn_trans (Cn_mono hsub (fo_same Rg_symm hfo hFs.1 hk0 (by rw [hFs.2.1, s1]))) (Cn_head r' (Cn_mono hsub (fo_same Rg_symm hfo hj hFb.1 (by rw [s3, hFb.2.1]))))
    have e1 : fo' (F s) = fo' (F b) := fo_cn hfo' c1
    have hne : F s ≠ F b := by rw [← s3]; exact fun q => s2 q.symm
    have l1 := fo_le hfo' hFs.1
    have l2 := fo_le hfo' hFb.1
    rw [hE.1]
    rcases Nat.lt_or_ge (F s) (F b) with hlt | hge
    · exact cnt_ssub (fun k hk q => fx_t.mpr (hfix k hk (fx_t.mp q))) hFb.1 (fx_f.mpr (by omega)) (fx_t.mpr hFb.2.1)
    · exact cnt_ssub (fun k hk q => fx_t.mpr (hfix k hk (fx_t.mp q))) hFs.1 (fx_f.mpr (by omega)) (fx_t.mpr hFs.2.1)
