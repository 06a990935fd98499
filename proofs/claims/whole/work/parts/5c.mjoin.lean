/-! OWN ROWS: the reference joins and parts. -/
theorem MP_at {N c p : Nat} {fo F : Nat → Nat} {v : pS} (C : MPw N fo v) (E : Enu fo N c F) (hp : p < c) : v.2 4 p = nI (F p) ∧ v.2 5 (F p) = nI (sz fo N (F p)) := by
  have h1 := Enu_F E hp
  have h2 := C.2.2.1 (F p) h1.1 h1.2.1
  rw [h1.2.2] at h2
  exact ⟨h2, C.2.2.2 (F p) h1.1⟩
theorem MPw_fr {N : Nat} {fo : Nat → Nat} {u v : pS} {A I : List Nat} (h : MPw N fo u) (hf : fr A I u v) (h3 : 3 ∉ A := by decide) (h4 : 4 ∉ A := by decide) (h5 : 5 ∉ A := by decide) (h1 : 1 ∉ I := by decide) : MPw N fo v := by
  unfold MPw
  rw [hf.1 3 h3, hf.1 4 h4, hf.1 5 h5, hf.2 1 h1]
  exact h
section
variable {w h K : Nat} {G : pG}
theorem m_smallest (M : MI w h K G) {f : Nat → Int32} {v : pS} {fo F : Nat → Nat} {c le s : Nat} (P : PS w h f fo F c) (C : MPw (w * h) fo v) (hle : le ≤ 400) (hs : amin (fun p => sz fo (w * h) (F p)) c s) {Q : Int32 → pS → Prop} (hQ : Q (if 1 < c ∧ sz fo (w * h) (F s) < le then nI (F s) else -1) v) : wp_Model_smallest G (nI le) v Q := by
  have B := mB M
  have hcN := PS_c P
  have hc2 : v.1 1 = nI c := by rw [C.2.1, P.2.1.1]
  have hsz := sz_le fo (w * h)
  unfold wp_Model_smallest
  suffices hl : ∀ (d p : Nat) (x : Int32), p + d = c → ((x = -1 ∧ ∀ q, q < p → le ≤ sz fo (w * h) (F q)) ∨ ∃ b, x = nI (F b) ∧ sz fo (w * h) (F b) < le ∧ amin (fun p => sz fo (w * h) (F p)) p b) → lp_Model_smallest_4 G Q (d + 1) (nI le) x (nI p) v from
    ⟨c + 1, by rw [li_0]; exact hl c 0 (-1) (by omega) (Or.inl ⟨rfl, fun q hq => absurd hq (Nat.not_lt_zero q)⟩)⟩
  intro d
  induction d with
  | zero =>
    intro p x hd hx
    have e : p = c := by omega
    rw [e] at hx
    unfold lp_Model_smallest_4
    rw [hc2, li_1]
    refine b_t (nI_le (by omega) (by omega)) ?_
    rw [← li_1]
    by_cases e1 : 1 < c
    · refine b_f (by rw [li_1]; exact nI_ge e1 (by omega)) ?_
      rcases hx with ⟨rfl, hx⟩ | ⟨b, rfl, hx1, hx2⟩
      · rw [if_neg (fun q => by have := hx s hs.1; omega)] at hQ
        exact hQ
      · have eb := amin_u hx2 hs
        rw [eb] at hx1 ⊢
        rw [if_pos ⟨e1, hx1⟩] at hQ
        exact hQ
    · rw [if_neg (fun q => e1 q.1)] at hQ
      exact b_t (by rw [li_1]; exact nI_le (by omega) (by omega)) hQ
  | succ d ih =>
    intro p x hd hx
    have hp : p < c := by omega
    have hFp := Enu_F P.2.1 hp
    have mp := MP_at C P.2.1 hp
    have zp := hsz (F p)
    unfold lp_Model_smallest_4
    rw [hc2, nI_clamp (n := p) (by omega), mp.1, ml_5 M, ml_6 M]
    simp only [forall_eq, nI_1]
    rw [nI_clamp (n := F p) (by omega), mp.2]
    refine b_f (nI_ge (by omega) (by omega)) ⟨vp_in_nI (by omega) (by omega), vp_in_nI (by omega) (by omega), ?_⟩
    by_cases e1 : le ≤ sz fo (w * h) (F p)
    · refine b_t (nI_le e1 (by omega)) (ih (p + 1) x (by omega) ?_)
      rcases hx with ⟨rfl, hx⟩ | ⟨b, rfl, hx1, hx2⟩
      · refine Or.inl ⟨rfl, fun q hq => ?_⟩
        by_cases e : q = p
        · rw [e]; exact e1
        · exact hx q (by omega)
      · refine Or.inr ⟨b, rfl, hx1, by have := hx2.1; omega, fun q hq => ?_, hx2.2.2⟩
        by_cases e : q = p
        · rw [e]; show sz fo (w * h) (F b) ≤ sz fo (w * h) (F p); omega
        · exact hx2.2.1 q (by omega)
    · refine b_f (nI_ge (by omega) (by omega)) ?_
      rcases hx with ⟨rfl, hx⟩ | ⟨b, rfl, hx1, hx2⟩
      · refine b_t (by decide) (ih (p + 1) _ (by omega) (Or.inr ⟨p, rfl, by omega, by omega, fun q hq => ?_, fun q hq => ?_⟩))
        · by_cases e : q = p
          · rw [e]; exact Nat.le_refl _
          · have := hx q (by omega)
            show sz fo (w * h) (F p) ≤ sz fo (w * h) (F q); omega
        · have := hx q (by omega)
          show sz fo (w * h) (F p) < sz fo (w * h) (F q); omega
      · have hb := hx2.1
        have hFb := Enu_F P.2.1 (show b < c by omega)
        have mb := MP_at C P.2.1 (show b < c by omega)
        refine b_f (nI_pos (by omega)) ⟨vp_in_nI (by omega) (by omega), vp_in_nI (by omega) (by omega), ?_⟩
        rw [nI_clamp (n := F b) (by omega), mb.2]
        by_cases e2 : sz fo (w * h) (F b) ≤ sz fo (w * h) (F p)
        · refine b_t (nI_le e2 (by omega)) (ih (p + 1) _ (by omega) (Or.inr ⟨b, rfl, hx1, by omega, fun q hq => ?_, hx2.2.2⟩))
          by_cases e : q = p
          · rw [e]; exact e2
          · exact hx2.2.1 q (by omega)
        · refine b_f (nI_ge (by omega) (by omega)) (ih (p + 1) _ (by omega) (Or.inr ⟨p, rfl, by omega, by omega, fun q hq => ?_, fun q hq => ?_⟩))
          · by_cases e : q = p
            · rw [e]; exact Nat.le_refl _
            · have : sz fo (w * h) (F b) ≤ sz fo (w * h) (F q) := hx2.2.1 q (by omega)
              show sz fo (w * h) (F p) ≤ sz fo (w * h) (F q); omega
          · have : sz fo (w * h) (F b) ≤ sz fo (w * h) (F q) := hx2.2.1 q (by omega)
            show sz fo (w * h) (F p) < sz fo (w * h) (F q); omega
theorem m_join (M : MI w h K G) {f : Nat → Int32} {v0 : pS} {fo F : Nat → Nat} {c s b : Nat} (P : PS w h f fo F c) (C : MPw (w * h) fo v0) (hs : s < c) (hb : amax (fun p => sh w h fo (F s) (F p)) c b) {Q : pS → Prop}
    (hQ : ∀ v, fr [2, 6] [] v0 v → (∀ k, k < w * h → v.2 2 k = if fo k = F s then v0.2 2 (F b) else v0.2 2 k) → Q v) : wp_Model_join G (nI (F s)) v0 Q := by
  have B := mB M
  have hcN := PS_c P
  have hFs := Enu_F P.2.1 hs
  have hFb := Enu_F P.2.1 hb.1
  have hap := amax_place P hb
  unfold wp_Model_join
  intro t ht
  rw [mp_0 M, mp_1 M, nI_mul] at ht
  rw [ht]
  have l160 : ∀ (d k : Nat) (v : pS), k + d = w * h → fr [2, 6] [] v0 v → (∀ j, j < w * h → v.2 2 j = if j < k ∧ fo j = F s then v0.2 2 (F b) else v0.2 2 j) → lp_Model_join_160 G Q (d + 1) (nI (F s)) (nI (w * h)) (v0.2 2 (F b)) (nI k) v := by
    intro d
    induction d with
    | zero =>
      intro k v hd hfr h2
      unfold lp_Model_join_160
      refine b_t (nI_le (by omega) (by omega)) (hQ v hfr (fun j hj => ?_))
      rw [h2 j hj]
      by_cases e : fo j = F s
      · rw [if_pos ⟨by omega, e⟩, if_pos e]
      · rw [if_neg (fun q => e q.2), if_neg e]
    | succ d ih =>
      intro k v hd hfr h2
      have hk : k < w * h := by omega
      have Cv := MPw_fr C hfr
      have hfk := fo_le P.1 hk
      unfold lp_Model_join_160
      rw [nI_clamp (n := k) (by omega), Cv.1 k hk, ml_4 M, ml_3 M]
      simp only [forall_eq, nI_1]
      refine b_f (nI_ge (by omega) (by omega)) ⟨vp_in_nI (by omega) (by omega), ?_⟩
      by_cases e : fo k = F s
      · rw [bt (by rw [e])]
        refine ⟨vp_in_nI (by omega) (by omega), ih (k + 1) _ (by omega) (fr_sa _ (by decide) hfr) (fun j hj => ?_)⟩
        rw [sa_eq]
        by_cases ej : j = k
        · rw [ej, upd_eq, if_pos ⟨by omega, e⟩]
        · rw [upd_ne _ _ ej, h2 j hj]
          by_cases e3 : j < k ∧ fo j = F s
          · rw [if_pos e3, if_pos ⟨by omega, e3.2⟩]
          · rw [if_neg e3, if_neg (fun q => e3 ⟨by omega, q.2⟩)]
      · rw [bf (fun q => e ((nI_eq (by omega) (by omega)).mp q))]
        refine ⟨vp_in_nI (by omega) (by omega), vp_in_nI (by omega) (by omega), ih (k + 1) _ (by omega) (fr_sa _ (by decide) hfr) (fun j hj => ?_)⟩
        have eu : upd (v.2 2) k (v.2 2 k) j = v.2 2 j := by
          by_cases ej : j = k
          · rw [ej, upd_eq]
          · rw [upd_ne _ _ ej]
        rw [sa_eq, eu, h2 j hj]
        by_cases e3 : j < k ∧ fo j = F s
        · rw [if_pos e3, if_pos ⟨by omega, e3.2⟩]
        · rw [if_neg e3, if_neg (fun q => e3 ⟨by
            have : j ≠ k := fun q3 => e (by rw [← q3]; exact q.2)
            omega, q.2⟩)]
  have l114 : ∀ (d k x : Nat) (v : pS), k + d = w * h → fr [6] [] v0 v → (∀ j, j < w * h → v.2 6 j = nI (sh w h fo (F s) j)) → amax (fun j => sh w h fo (F s) j) k x → lp_Model_join_114 G Q (d + 1) (nI (F s)) (nI (w * h)) (nI x) (nI k) v := by
    intro d
    induction d with
    | zero =>
      intro k x v hd hfr h6 hx
      have e : k = w * h := by omega
      rw [e] at hx
      have ex : x = F b := amax_u hx hap
      unfold lp_Model_join_114
      refine b_t (nI_le (by omega) (by omega)) ?_
      rw [ex, nI_clamp (n := F b) (by omega), ml_3 M]
      refine ⟨vp_in_nI (by omega) (by omega), ?_⟩
      intro t ht
      have h2 : v.2 2 = v0.2 2 := hfr.1 2 (by decide)
      rw [ht, h2]
      exact ⟨w * h + 1, by rw [li_0]; exact l160 (w * h) 0 v (by omega) (fr_mono hfr (by decide) (by decide)) (fun j hj => by rw [if_neg (fun q => absurd q.1 (Nat.not_lt_zero j)), h2])⟩
    | succ d ih =>
      intro k x v hd hfr h6 hx
      have hx1 := hx.1
      have s1 := sh_le w h fo (F s) k
      have s2 := sh_le w h fo (F s) x
      unfold lp_Model_join_114
      rw [nI_clamp (n := k) (by omega), nI_clamp (n := x) (by omega), h6 k (by omega), h6 x (by omega), ml_7 M]
      simp only [forall_eq, nI_1]
      refine b_f (nI_ge (by omega) (by omega)) ⟨vp_in_nI (by omega) (by omega), vp_in_nI (by omega) (by omega), ?_⟩
      by_cases e : sh w h fo (F s) k ≤ sh w h fo (F s) x
      · refine b_t (nI_le e (by omega)) (ih (k + 1) x v (by omega) hfr h6 ⟨by omega, fun q hq => ?_, hx.2.2⟩)
        by_cases e2 : q = k
        · rw [e2]; exact e
        · exact hx.2.1 q (by omega)
      · refine b_f (nI_ge (by omega) (by omega)) (ih (k + 1) k v (by omega) hfr h6 ⟨by omega, fun q hq => ?_, fun q hq => ?_⟩)
        · by_cases e2 : q = k
          · rw [e2]; exact Nat.le_refl _
          · have : sh w h fo (F s) q ≤ sh w h fo (F s) x := hx.2.1 q (by omega)
            show sh w h fo (F s) q ≤ sh w h fo (F s) k; omega
        · have : sh w h fo (F s) q ≤ sh w h fo (F s) x := hx.2.1 q (by omega)
          show sh w h fo (F s) q < sh w h fo (F s) k; omega
  have l40 : ∀ (k32 : Int32 → Int32 → Int32 → pS → Prop) (k : Nat), k < w * h → (∀ v, fr [6] [] v0 v → (∀ j, j < w * h → v.2 6 j = nI (cnt (sd w h fo (F s) j) (4 * (k + 1)))) → k32 (nI (F s)) (nI (w * h)) (nI (k + 1)) v) →
      ∀ (d t : Nat) (v : pS), t + d = 4 → fr [6] [] v0 v → (∀ j, j < w * h → v.2 6 j = nI (cnt (sd w h fo (F s) j) (4 * k + t))) → lp_Model_join_40 G Q k32 (d + 1) (nI (F s)) (nI (w * h)) (nI k) (nI t) v := by
    intro k32 k hk hk32 d
    have hfk := fo_le P.1 hk
    induction d with
    | zero =>
      intro t v hd hfr h6
      have e : t = 4 := by omega
      unfold lp_Model_join_40
      refine b_t (by rw [e, li_4]; exact nI_le (by omega) (by omega)) ?_
      intro t16 ht16
      rw [ht16, nI_1]
      exact hk32 v hfr (fun j hj => by rw [h6 j hj, e]; rfl)
    | succ d ih =>
      intro t v hd hfr h6
      have Cv := MPw_fr C hfr
      unfold lp_Model_join_40
      rw [bf (by rw [li_4]; exact nI_ge (by omega) (by omega)), e_mbes M hk (by omega)]
      simp only [forall_eq, nI_1, ml_4 M, ml_7 M]
      rw [nI_clamp (n := k) (by omega), Cv.1 k hk]
      refine ⟨vp_in_nI (by omega) (by omega), ?_⟩
      by_cases e : fo k = F s
      · rw [bt (by rw [e])]
        rcases bs_cases hk (show t < 4 by omega) with hbn | ⟨j, hj, hbj, _⟩
        · rw [hbn, ← lz_m1]
          refine b_t (by decide) (ih (t + 1) v (by omega) hfr (fun q hq => ?_))
          rw [h6 q hq, ← Nat.add_assoc, cnt_s, sd_at (by omega), hbn]
          simp
        · have hfj := fo_le P.1 hj
          have hsd : ∀ q, sd w h fo (F s) q (4 * k + t) = (!(fo j == F s) && (fo j == q)) := by
            intro q
            rw [sd_at (by omega), hbj, Int.toNat_natCast, e]
            simp
          rw [hbj, ← nI_z, nI_clamp (n := j) (by omega), Cv.1 j hj, nI_clamp (n := fo j) (by omega)]
          refine b_f (nI_pos (by omega)) ⟨vp_in_nI (by omega) (by omega), ?_⟩
          by_cases e2 : fo j = F s
          · rw [bt (by rw [e2])]
            refine ih (t + 1) v (by omega) hfr (fun q hq => ?_)
            rw [h6 q hq, ← Nat.add_assoc, cnt_s, hsd q, e2]
            simp
          · rw [bf (fun q => e2 ((nI_eq (by omega) (by omega)).mp q))]
            refine ⟨vp_in_nI (by omega) (by omega), vp_in_nI (by omega) (by omega), vp_in_nI (by omega) (by omega), ih (t + 1) _ (by omega) (fr_sa _ (by decide) hfr) (fun q hq => ?_)⟩
            rw [sa_eq, ← Nat.add_assoc, cnt_s, hsd q]
            have en : (!(fo j == F s)) = true := by simp [e2]
            rw [en, Bool.true_and]
            by_cases e3 : q = fo j
            · rw [e3, upd_eq, h6 _ (by omega), nI_1]
              simp
            · rw [upd_ne _ _ e3, h6 q hq]
              have : (fo j == q) = false := beq_eq_false_iff_ne.mpr (fun q3 => e3 q3.symm)
              rw [this]; simp
      · rw [bf (fun q => e ((nI_eq (by omega) (by omega)).mp q))]
        refine ih (t + 1) v (by omega) hfr (fun q hq => ?_)
        rw [h6 q hq, ← Nat.add_assoc, cnt_s, sd_at (by omega)]
        simp [e]
  have l32 : ∀ (d k : Nat) (v : pS), k + d = w * h → fr [6] [] v0 v → (∀ j, j < w * h → v.2 6 j = nI (cnt (sd w h fo (F s) j) (4 * k))) → lp_Model_join_32 G Q (d + 1) (nI (F s)) (nI (w * h)) (nI k) v := by
    intro d
    induction d with
    | zero =>
      intro k v hd hfr h6
      have e : k = w * h := by omega
      unfold lp_Model_join_32
      obtain ⟨d1, hd1⟩ : ∃ d1, 1 + d1 = w * h := ⟨w * h - 1, by omega⟩
      refine b_t (nI_le (by omega) (by omega)) ⟨d1 + 1, ?_⟩
      rw [li_0, li_1]
      exact l114 d1 1 0 v hd1 hfr (fun j hj => by rw [h6 j hj, e]; rfl) (amax_1 _)
    | succ d ih =>
      intro k v hd hfr h6
      unfold lp_Model_join_32
      refine b_f (nI_ge (by omega) (by omega)) ⟨4 + 1, ?_⟩
      rw [li_0]
      exact l40 _ k (by omega) (fun v2 f2 h62 => ih (k + 1) v2 (by omega) f2 h62) 4 0 v (by omega) hfr h6
  suffices hl : ∀ (d k : Nat) (v : pS), k + d = w * h → fr [6] [] v0 v → (∀ j, j < k → v.2 6 j = nI 0) → lp_Model_join_12 G Q (d + 1) (nI (F s)) (nI (w * h)) (nI k) v from
    ⟨w * h + 1, by rw [li_0]; exact hl (w * h) 0 v0 (by omega) (fr_refl _ _ _) (fun j hj => absurd hj (Nat.not_lt_zero j))⟩
  intro d
  induction d with
  | zero =>
    intro k v hd hfr h6
    unfold lp_Model_join_12
    exact b_t (nI_le (by omega) (by omega)) ⟨w * h + 1, by rw [li_0]; exact l32 (w * h) 0 v (by omega) hfr (fun j hj => h6 j (by omega))⟩
  | succ d ih =>
    intro k v hd hfr h6
    unfold lp_Model_join_12
    rw [nI_clamp (n := k) (by omega), ml_7 M]
    simp only [forall_eq, nI_1]
    refine b_f (nI_ge (by omega) (by omega)) ⟨vp_in_nI (by omega) (by omega), ih (k + 1) _ (by omega) (fr_sa _ (by decide) hfr) (fun j hj => ?_)⟩
    rw [sa_eq]
    by_cases e : j = k
    · rw [e, upd_eq]; exact li_0
    · rw [upd_ne _ _ e]; exact h6 j (by omega)
end
