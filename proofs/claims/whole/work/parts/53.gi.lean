/-! OWN ROWS: what never changes in the class, and its small methods. -/
def GI (w h K : Nat) (G : pG) : Prop := (∃ v, G = cG w h K v) ∧ (0 < w ∧ w ≤ 20 ∧ 0 < h ∧ h ≤ 20 ∧ 0 < K ∧ K ≤ 8 ∧ 0 < w * h ∧ w * h ≤ 400 ∧ 2 * (w + 1) * (h + 1) ≤ 882) ∧ (∀ k, k < w * h → G.2.2 0 k = nI (k % w)) ∧ (∀ k, k < w * h → G.2.2 1 k = nI (k / w)) ∧ (∀ k s, k < w * h → s < 4 → G.2.2 2 (k * 4 + s) = zI (bs w h k s))
theorem b_t {c P Q : Prop} (h : c) (hP : P) : (c → P) ∧ (¬ c → Q) := ⟨fun _ => hP, fun n => absurd h n⟩
theorem b_f {c P Q : Prop} (h : ¬ c) (hQ : Q) : (c → P) ∧ (¬ c → Q) := ⟨fun q => absurd q h, fun _ => hQ⟩
theorem bt {c P Q : Prop} (h : c) : ((c → P) ∧ (¬ c → Q)) ↔ P := ⟨fun q => q.1 h, fun q => b_t h q⟩
theorem bf {c P Q : Prop} (h : ¬ c) : ((c → P) ∧ (¬ c → Q)) ↔ Q := ⟨fun q => q.2 h, fun q => b_f h q⟩
section
variable {w h K : Nat} {G : pG} (H : GI w h K G)
theorem gB (H : GI w h K G) : 0 < w ∧ w ≤ 20 ∧ 0 < h ∧ h ≤ 20 ∧ 0 < K ∧ K ≤ 8 ∧ 0 < w * h ∧ w * h ≤ 400 ∧ 2 * (w + 1) * (h + 1) ≤ 882 := H.2.1
theorem gl_11 (H : GI w h K G) : G.1 11 = w * h := by obtain ⟨⟨v, rfl⟩, _⟩ := H; rfl
theorem gl_12 (H : GI w h K G) : G.1 12 = w * h := by obtain ⟨⟨v, rfl⟩, _⟩ := H; rfl
theorem gl_13 (H : GI w h K G) : G.1 13 = w * h * 4 := by obtain ⟨⟨v, rfl⟩, _⟩ := H; rfl
theorem gl_14 (H : GI w h K G) : G.1 14 = w * h := by obtain ⟨⟨v, rfl⟩, _⟩ := H; rfl
theorem gl_15 (H : GI w h K G) : G.1 15 = w * h := by obtain ⟨⟨v, rfl⟩, _⟩ := H; rfl
theorem gl_16 (H : GI w h K G) : G.1 16 = w * h := by obtain ⟨⟨v, rfl⟩, _⟩ := H; rfl
theorem gl_17 (H : GI w h K G) : G.1 17 = K := by obtain ⟨⟨v, rfl⟩, _⟩ := H; rfl
theorem gl_18 (H : GI w h K G) : G.1 18 = K := by obtain ⟨⟨v, rfl⟩, _⟩ := H; rfl
theorem gl_19 (H : GI w h K G) : G.1 19 = K := by obtain ⟨⟨v, rfl⟩, _⟩ := H; rfl
theorem gl_20 (H : GI w h K G) : G.1 20 = w * h := by obtain ⟨⟨v, rfl⟩, _⟩ := H; rfl
theorem gl_21 (H : GI w h K G) : G.1 21 = w * h := by obtain ⟨⟨v, rfl⟩, _⟩ := H; rfl
theorem gl_22 (H : GI w h K G) : G.1 22 = w * h := by obtain ⟨⟨v, rfl⟩, _⟩ := H; rfl
theorem gl_23 (H : GI w h K G) : G.1 23 = w * h := by obtain ⟨⟨v, rfl⟩, _⟩ := H; rfl
theorem gl_24 (H : GI w h K G) : G.1 24 = w * h := by obtain ⟨⟨v, rfl⟩, _⟩ := H; rfl
theorem gl_25 (H : GI w h K G) : G.1 25 = w * h := by obtain ⟨⟨v, rfl⟩, _⟩ := H; rfl
theorem gl_26 (H : GI w h K G) : G.1 26 = w * h := by obtain ⟨⟨v, rfl⟩, _⟩ := H; rfl
theorem gl_27 (H : GI w h K G) : G.1 27 = w * h := by obtain ⟨⟨v, rfl⟩, _⟩ := H; rfl
theorem gl_28 (H : GI w h K G) : G.1 28 = w * h := by obtain ⟨⟨v, rfl⟩, _⟩ := H; rfl
theorem gl_29 (H : GI w h K G) : G.1 29 = K := by obtain ⟨⟨v, rfl⟩, _⟩ := H; rfl
theorem gl_30 (H : GI w h K G) : G.1 30 = w * h := by obtain ⟨⟨v, rfl⟩, _⟩ := H; rfl
theorem gl_31 (H : GI w h K G) : G.1 31 = w * h := by obtain ⟨⟨v, rfl⟩, _⟩ := H; rfl
theorem gl_32 (H : GI w h K G) : G.1 32 = 2 * (w + 1) * (h + 1) := by obtain ⟨⟨v, rfl⟩, _⟩ := H; rfl
theorem gl_33 (H : GI w h K G) : G.1 33 = 2 * (w + 1) * (h + 1) := by obtain ⟨⟨v, rfl⟩, _⟩ := H; rfl
theorem gl_34 (H : GI w h K G) : G.1 34 = w * h := by obtain ⟨⟨v, rfl⟩, _⟩ := H; rfl
theorem gl_35 (H : GI w h K G) : G.1 35 = w * h := by obtain ⟨⟨v, rfl⟩, _⟩ := H; rfl
theorem gl_36 (H : GI w h K G) : G.1 36 = w * h := by obtain ⟨⟨v, rfl⟩, _⟩ := H; rfl
theorem gl_37 (H : GI w h K G) : G.1 37 = w * h := by obtain ⟨⟨v, rfl⟩, _⟩ := H; rfl
theorem gl_38 (H : GI w h K G) : G.1 38 = w * h := by obtain ⟨⟨v, rfl⟩, _⟩ := H; rfl
theorem gl_39 (H : GI w h K G) : G.1 39 = w * h := by obtain ⟨⟨v, rfl⟩, _⟩ := H; rfl
theorem gp_0 (H : GI w h K G) : G.2.1 0 = nI K := by obtain ⟨⟨v, rfl⟩, _⟩ := H; rfl
theorem gp_1 (H : GI w h K G) : G.2.1 1 = nI w := by obtain ⟨⟨v, rfl⟩, _⟩ := H; rfl
theorem gp_2 (H : GI w h K G) : G.2.1 2 = nI h := by obtain ⟨⟨v, rfl⟩, _⟩ := H; rfl
theorem gp_3 (H : GI w h K G) : G.2.1 3 = nI (w * h) := by obtain ⟨⟨v, rfl⟩, _⟩ := H; rfl
theorem gp_4 (H : GI w h K G) : G.2.1 4 = nI (w * h * 4) := by obtain ⟨⟨v, rfl⟩, _⟩ := H; show nI (w * h) * 4 = _; rw [li_4, nI_mul]
theorem e_col (H : GI w h K G) {k : Nat} (hk : k < w * h) {u : pS} {Q : Int32 → pS → Prop} : wp_Grid_columnOf G (nI k) u Q ↔ Q (nI (k % w)) u := by
  have B := gB H
  unfold wp_Grid_columnOf
  rw [gl_11 H, nI_clamp (by omega), H.2.2.1 k hk]
  exact and_iff_right (vp_in_nI hk (by omega))
theorem e_row (H : GI w h K G) {k : Nat} (hk : k < w * h) {u : pS} {Q : Int32 → pS → Prop} : wp_Grid_rowOf G (nI k) u Q ↔ Q (nI (k / w)) u := by
  have B := gB H
  unfold wp_Grid_rowOf
  rw [gl_12 H, nI_clamp (by omega), H.2.2.2.1 k hk]
  exact and_iff_right (vp_in_nI hk (by omega))
theorem e_bes (H : GI w h K G) {k s : Nat} (hk : k < w * h) (hs : s < 4) {u : pS} {Q : Int32 → pS → Prop} : wp_Grid_besideOf G (nI k) (nI s) u Q ↔ Q (zI (bs w h k s)) u := by
  have B := gB H
  unfold wp_Grid_besideOf
  rw [gl_13 H, li_4, nI_mul, nI_add, nI_clamp (by omega), H.2.2.2.2 k s hk hs]
  exact and_iff_right (vp_in_nI (by omega) (by omega))
theorem e_plc (H : GI w h K G) {x y : Int} (hx : -2147483648 ≤ x) (hx2 : x < 2147483648) (hy : -2147483648 ≤ y) (hy2 : y < 2147483648) {u : pS} {Q : Int32 → pS → Prop} : wp_Grid_placeOf G (zI x) (zI y) u Q ↔ Q (zI (pl w h x y)) u := by
  have B := gB H
  unfold wp_Grid_placeOf pl
  rw [gp_1 H, gp_2 H, nI_z w, nI_z h, lz_0, lz_m1, zI_mul, zI_add]
  rw [zI_lt hx hx2 (by omega) (by omega), zI_lt hy hy2 (by omega) (by omega), zI_le (by omega) (by omega) hx hx2, zI_le (by omega) (by omega) hy hy2]
  by_cases h1 : x < 0
  · rw [bt h1, if_neg (by omega)]
  · rw [bf h1]
    by_cases h2 : (w : Int) ≤ x
    · rw [bt h2, if_neg (by omega)]
    · rw [bf h2]
      by_cases h3 : y < 0
      · rw [bt h3, if_neg (by omega)]
      · rw [bf h3]
        by_cases h4 : (h : Int) ≤ y
        · rw [bt h4, if_neg (by omega)]
        · rw [bf h4, if_pos (by omega)]
end
def IsMn (S : Nat → Prop) (f : Nat → Nat) (v : Nat) : Prop := (∃ j, S j ∧ f j = v) ∧ ∀ j, S j → v ≤ f j
def IsMx (S : Nat → Prop) (f : Nat → Nat) (v : Nat) : Prop := (∃ j, S j ∧ f j = v) ∧ ∀ j, S j → f j ≤ v
theorem IsMn_u {S : Nat → Prop} {f : Nat → Nat} {v v' : Nat} (a : IsMn S f v) (b : IsMn S f v') : v = v' := by
  obtain ⟨⟨j, h1, h2⟩, h3⟩ := a
  obtain ⟨⟨k, h4, h5⟩, h6⟩ := b
  have := h3 k h4; have := h6 j h1; omega
theorem IsMx_u {S : Nat → Prop} {f : Nat → Nat} {v v' : Nat} (a : IsMx S f v) (b : IsMx S f v') : v = v' := by
  obtain ⟨⟨j, h1, h2⟩, h3⟩ := a
  obtain ⟨⟨k, h4, h5⟩, h6⟩ := b
  have := h3 k h4; have := h6 j h1; omega
theorem Cn_f {w h : Nat} {f : Nat → Int32} {a b : Nat} (c : Cn (Rg w h f) a b) : f a = f b := c (fun x => f a = f x) rfl (fun x y h1 h2 => h1.trans h2.2.2.1)
