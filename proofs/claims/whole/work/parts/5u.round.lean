/-! OWN ROWS: the walk in the class. -/
def e0 (w : Nat) (a : Nat) : Int × Int × Nat := (((a % w : Nat) : Int), ((a / w : Nat) : Int), 0)
/-- the walk turns at its (i+1)-th crossing -/
def tn (w h : Nat) (fo : Nat → Nat) (a i : Nat) : Bool := !((ed w h fo a (e0 w a) (i + 1)).2.2 == (ed w h fo a (e0 w a) i).2.2)
/-- the walk is back at its start after n steps, and not before -/
def Nst (w h : Nat) (fo : Nat → Nat) (a n : Nat) : Prop := 1 ≤ n ∧ n ≤ w * h * 4 ∧ n ≤ 2 * (w + 1) * (h + 1) ∧ ((ed w h fo a (e0 w a) n).1 = (e0 w a).1 ∧ (ed w h fo a (e0 w a) n).2.1 = (e0 w a).2.1) ∧ ∀ m, 1 ≤ m → m < n → ¬ ((ed w h fo a (e0 w a) m).1 = (e0 w a).1 ∧ (ed w h fo a (e0 w a) m).2.1 = (e0 w a).2.1)
/-- A, B hold the corners of the first n steps -/
def CR (w h : Nat) (fo : Nat → Nat) (a : Nat) (A B : Nat → Int32) (n : Nat) : Prop := A 0 = zI (e0 w a).1 ∧ B 0 = zI (e0 w a).2.1 ∧ ∀ i, i < n → tn w h fo a i = true → A (1 + cnt (tn w h fo a) i) = zI (ed w h fo a (e0 w a) (i + 1)).1 ∧ B (1 + cnt (tn w h fo a) i) = zI (ed w h fo a (e0 w a) (i + 1)).2.1
theorem CR_u {w h : Nat} {fo : Nat → Nat} {a n : Nat} {A B A' B' : Nat → Int32} (h1 : CR w h fo a A B n) (h2 : CR w h fo a A' B' n) {k : Nat} (hk : k < 1 + cnt (tn w h fo a) n) : A k = A' k ∧ B k = B' k := by
  by_cases e : k = 0
  · rw [e, h1.1, h1.2.1, h2.1, h2.2.1]; exact ⟨rfl, rfl⟩
  · obtain ⟨i, hi, ht, hc⟩ := cnt_ex (P := tn w h fo a) (n := n) (p := k - 1) (by omega)
    have ek : k = 1 + cnt (tn w h fo a) i := by omega
    have q1 := h1.2.2 i hi ht
    have q2 := h2.2.2 i hi ht
    rw [ek, q1.1, q1.2, q2.1, q2.2]; exact ⟨rfl, rfl⟩
theorem CR_keep {w h : Nat} {fo : Nat → Nat} {a n : Nat} {A B : Nat → Int32} (h1 : CR w h fo a A B n) (ht : tn w h fo a n = false) : CR w h fo a A B (n + 1) := by
  refine ⟨h1.1, h1.2.1, fun i hi hti => ?_⟩
  by_cases e : i = n
  · rw [e, ht] at hti; exact absurd hti (by decide)
  · exact h1.2.2 i (by omega) hti
theorem CR_new {w h : Nat} {fo : Nat → Nat} {a n : Nat} {A B : Nat → Int32} (h1 : CR w h fo a A B n) : CR w h fo a (upd A (1 + cnt (tn w h fo a) n) (zI (ed w h fo a (e0 w a) (n + 1)).1)) (upd B (1 + cnt (tn w h fo a) n) (zI (ed w h fo a (e0 w a) (n + 1)).2.1)) (n + 1) := by
  refine ⟨?_, ?_, fun i hi hti => ?_⟩
  · rw [upd_ne _ _ (by omega)]; exact h1.1
  · rw [upd_ne _ _ (by omega)]; exact h1.2.1
  · by_cases e : i = n
    · rw [e, upd_eq, upd_eq]; exact ⟨rfl, rfl⟩
    · have := cnt_at (P := tn w h fo a) (show i < n by omega) hti
      rw [upd_ne _ _ (by omega), upd_ne _ _ (by omega)]
      exact h1.2.2 i (by omega) hti
section
variable {w h : Nat} {f : Nat → Int32} {fo F : Nat → Nat} {c p : Nat}
theorem Eg_0 (P : PS w h f fo F c) (hp : p < c) : Eg w h fo (F p) (e0 w (F p)) := by
  have hF := Enu_F P.2.1 hp
  have gx := gr_x hF.1
  have gy := gr_y hF.1
  refine ⟨show (0 : Nat) < 4 by decide, ?_, ?_⟩
  · show inb w h fo (F p) (((F p % w : Nat) : Int) + ax 0) (((F p / w : Nat) : Int) + ay 0) = true
    rw [inb_inp]
    refine ⟨F p % w, F p / w, by simp [ax], by simp [ay], gx, gy, ?_⟩
    rw [gr_k]; exact hF.2.1
  · show inb w h fo (F p) (((F p % w : Nat) : Int) + ax 3) (((F p / w : Nat) : Int) + ay 3) = false
    cases ei : inb w h fo (F p) (((F p % w : Nat) : Int) + ax 3) (((F p / w : Nat) : Int) + ay 3) with
    | false => rfl
    | true =>
      exfalso
      obtain ⟨i, j, q1, q2, h1, h2, h3⟩ := inb_inp.mp ei
      have e1 : i = F p % w := by simp [ax] at q1; omega
      have e2 : j + 1 = F p / w := by simp [ay] at q2; omega
      have hk := gr_in h1 h2
      have hle := fo_le P.1 hk
      rw [h3] at hle
      have hg := gr_k w (F p)
      rw [← e1, ← e2, Nat.add_mul, Nat.one_mul] at hg
      omega
theorem Nst_ex (P : PS w h f fo F c) (hp : p < c) : ∃ n, Nst w h fo (F p) n := by
  have hE := Eg_0 P hp
  obtain ⟨n1, a1, a2, a3⟩ := ed_ret1 hE
  obtain ⟨n2, b1, b2, b3⟩ := ed_ret2 hE
  obtain ⟨n, ⟨c1, c2⟩, c3, c4⟩ := least (P := fun m => 1 ≤ m ∧ ((ed w h fo (F p) (e0 w (F p)) m).1 = (e0 w (F p)).1 ∧ (ed w h fo (F p) (e0 w (F p)) m).2.1 = (e0 w (F p)).2.1)) n1 ⟨a1, by rw [a3]; exact ⟨rfl, rfl⟩⟩
  have c5 := c4 n2 ⟨b1, by rw [b3]; exact ⟨rfl, rfl⟩⟩
  exact ⟨n, c1, by omega, by omega, c2, fun m m1 m2 q => by have := c4 m ⟨m1, q⟩; omega⟩
/-- where the walk may be -/
theorem ed_b (P : PS w h f fo F c) (hp : p < c) (n : Nat) : 0 ≤ (ed w h fo (F p) (e0 w (F p)) n).1 ∧ (ed w h fo (F p) (e0 w (F p)) n).1 ≤ w ∧ 0 ≤ (ed w h fo (F p) (e0 w (F p)) n).2.1 ∧ (ed w h fo (F p) (e0 w (F p)) n).2.1 ≤ h ∧ (ed w h fo (F p) (e0 w (F p)) n).2.2 < 4 := by
  have hE := ed_Eg (Eg_0 P hp) n
  generalize ed w h fo (F p) (e0 w (F p)) n = e at *
  obtain ⟨x, y, s⟩ := e
  have hi := Eg_in hE
  have hb := ax_b (s := s)
  have hs := hE.1
  dsimp only at hs ⊢
  omega
end
theorem tb_sx : ∀ s, s < 4 → tb_SX s = zI (dx s) ∧ tb_SY s = zI (dy s) ∧ tb_AX s = zI (ax s) ∧ tb_AY s = zI (ay s) := by
  intro s hs
  rcases lt4 hs with rfl | rfl | rfl | rfl <;> decide +kernel
section
variable {w h K : Nat} {G : pG} {f : Nat → Int32} {fo F : Nat → Nat} {c p : Nat}
theorem k_ahead (H : GI w h K G) (P : PS w h f fo F c) {u : pS} (C : CPw w (w * h) fo u) (hp : p < c) {x y : Int} {s : Nat} (hs : s < 4) (x1 : 0 ≤ x) (x2 : x ≤ 20) (y1 : 0 ≤ y) (y2 : y ≤ 20) (ex : u.1 3 = zI x) (ey : u.1 4 = zI y) {Q : Int32 → pS → Prop} (hQ : Q (bI (cc w h fo (F p) x y s)) u) : wp_Walk_isAhead G (nI p) (nI s) u Q := by
  have B := gB H
  have hb := ax_b (s := s)
  have ht := tb_sx s hs
  unfold wp_Walk_isAhead
  rw [nI_clamp (n := s) (by omega), ht.2.2.1, ht.2.2.2, ex, ey, zI_add, zI_add]
  refine ⟨vp_in_nI hs (by omega), vp_in_nI hs (by omega), ?_⟩
  rw [e_num H P C (by omega) (by omega) (by omega) (by omega), num_inp P hp (by omega), ← inb_inp]
  unfold cc at hQ
  cases ei : inb w h fo (F p) (x + ax s) (y + ay s) with
  | true => rw [ei] at hQ; exact b_t rfl hQ
  | false => rw [ei] at hQ; exact b_f (by decide) hQ
theorem k_note (H : GI w h K G) {u : pS} {x y : Int32} {k : Nat} (hk : k < 2 * (w + 1) * (h + 1)) (ex : u.1 3 = x) (ey : u.1 4 = y) (ek : u.1 6 = nI k) {Q : pS → Prop} (hQ : ∀ u', fr [18, 19] [6] u u' → u'.2 18 = upd (u.2 18) k x → u'.2 19 = upd (u.2 19) k y → u'.1 6 = nI (k + 1) → Q u') : wp_Walk_noteCorner G u Q := by
  have B := gB H
  have hv : vp_in (nI k) (2 * (w + 1) * (h + 1)) := vp_in_nI hk (by omega)
  unfold wp_Walk_noteCorner
  rw [gl_32 H, gl_33 H]
  simp only [forall_eq]
  simp only [sa_i, ex, ey, ek]
  rw [nI_clamp (n := k) (by omega), nI_1]
  refine b_f (nI_ge hk (by omega)) ⟨hv, hv, ?_⟩
  refine hQ _ (fr_si _ (by decide) (fr_sa _ (by decide) (fr_sa _ (by decide) (fr_refl _ _ _)))) ?_ ?_ (si_eq _ _ _)
  · simp (disch := decide) only [si_a, sa_ne, sa_eq]
  · simp (disch := decide) only [si_a, sa_ne, sa_eq]
theorem k_round {lx mx ly my : Nat → Nat} (H : GI w h K G) (P : PS w h f fo F c) {u0 : pS} (C : CPw w (w * h) fo u0) (A : CA w h fo F c lx mx ly my u0) (hp : p < c) {n : Nat} (hn : Nst w h fo (F p) n) {Q : pS → Prop}
    (hQ : ∀ u, fr [18, 19] [3, 4, 5, 6] u0 u → u.1 6 = nI (1 + cnt (tn w h fo (F p)) (n - 1)) → CR w h fo (F p) (u.2 18) (u.2 19) (n - 1) → Q u) : wp_Walk_round G (nI p) u0 Q := by
  have B := gB H
  have hcN := PS_c P
  have hF := Enu_F P.2.1 hp
  have gx := gr_x hF.1
  have gy := gr_y hF.1
  obtain ⟨n1, n2, n3, n4, n5⟩ := hn
  have loop : ∀ (d s : Nat) (u : pS), s + d + 1 = n → fr [18, 19] [3, 4, 5, 6] u0 u → u.1 3 = zI (ed w h fo (F p) (e0 w (F p)) s).1 → u.1 4 = zI (ed w h fo (F p) (e0 w (F p)) s).2.1 → u.1 5 = nI (ed w h fo (F p) (e0 w (F p)) s).2.2 → u.1 6 = nI (1 + cnt (tn w h fo (F p)) s) → CR w h fo (F p) (u.2 18) (u.2 19) s → lp_Walk_round_45 G Q (d + 1) (nI p) (zI (e0 w (F p)).1) (zI (e0 w (F p)).2.1) (nI s) u := by
    intro d
    induction d with
    | zero =>
      intro s u hd hfr i3 i4 i5 i6 hC
      have hb := ed_b P hp s
      have hb1 := ed_b P hp (s + 1)
      have ht := tb_sx _ hb.2.2.2.2
      have es : ed w h fo (F p) (e0 w (F p)) (s + 1) = stp w h fo (F p) (ed w h fo (F p) (e0 w (F p)) s) := rfl
      have esn : s + 1 = n := by omega
      rw [← esn] at n4
      unfold lp_Walk_round_45
      refine b_f (by rw [gp_4 H]; exact nI_ge (by omega) (by omega)) ⟨by rw [i5]; exact vp_in_nI hb.2.2.2.2 (by omega), ?_⟩
      intro u11 hu11
      have j5 : u11.1 5 = nI (ed w h fo (F p) (e0 w (F p)) s).2.2 := by rw [hu11, si_ne _ _ (by decide)]; exact i5
      refine ⟨by rw [j5]; exact vp_in_nI hb.2.2.2.2 (by omega), ?_⟩
      intro u12 hu12
      rw [i3, i5, nI_clamp (by omega), ht.1, zI_add] at hu11
      have k4 : u11.1 4 = zI (ed w h fo (F p) (e0 w (F p)) s).2.1 := by rw [hu11, si_ne _ _ (by decide)]; exact i4
      rw [k4, j5, nI_clamp (by omega), ht.2.1, zI_add] at hu12
      have x12 : u12.1 3 = zI (ed w h fo (F p) (e0 w (F p)) (s + 1)).1 := by rw [hu12, si_ne _ _ (by decide), hu11, si_eq]; rfl
      have y12 : u12.1 4 = zI (ed w h fo (F p) (e0 w (F p)) (s + 1)).2.1 := by rw [hu12, si_eq]; rfl
      have c12 : u12.1 6 = u.1 6 := by rw [hu12, si_ne _ _ (by decide), hu11, si_ne _ _ (by decide)]
      rw [x12, y12, n4.1, n4.2]
      refine b_t rfl (b_t rfl ?_)
      rw [← esn, Nat.add_sub_cancel] at hQ
      refine hQ u12 ?_ (by rw [c12]; exact i6) ?_
      · rw [hu12, hu11]; exact fr_si _ (by decide) (fr_si _ (by decide) hfr)
      · rw [hu12, hu11, si_a, si_a]; exact hC
    | succ d ih =>
      intro s u hd hfr i3 i4 i5 i6 hC
      have hb := ed_b P hp s
      have hb1 := ed_b P hp (s + 1)
      have ht := tb_sx _ hb.2.2.2.2
      have n5' := n5 (s + 1) (by omega) (by omega)
      have hcs := cnt_le (tn w h fo (F p)) s
      unfold lp_Walk_round_45
      refine b_f (by rw [gp_4 H]; exact nI_ge (by omega) (by omega)) ⟨by rw [i5]; exact vp_in_nI hb.2.2.2.2 (by omega), ?_⟩
      intro u11 hu11
      have j5 : u11.1 5 = nI (ed w h fo (F p) (e0 w (F p)) s).2.2 := by rw [hu11, si_ne _ _ (by decide)]; exact i5
      refine ⟨by rw [j5]; exact vp_in_nI hb.2.2.2.2 (by omega), ?_⟩
      intro u12 hu12
      rw [i3, i5, nI_clamp (by omega), ht.1, zI_add] at hu11
      have k4 : u11.1 4 = zI (ed w h fo (F p) (e0 w (F p)) s).2.1 := by rw [hu11, si_ne _ _ (by decide)]; exact i4
      rw [k4, j5, nI_clamp (by omega), ht.2.1, zI_add] at hu12
      have x12 : u12.1 3 = zI (ed w h fo (F p) (e0 w (F p)) (s + 1)).1 := by rw [hu12, si_ne _ _ (by decide), hu11, si_eq]; rfl
      have y12 : u12.1 4 = zI (ed w h fo (F p) (e0 w (F p)) (s + 1)).2.1 := by rw [hu12, si_eq]; rfl
      have w12 : u12.1 5 = nI (ed w h fo (F p) (e0 w (F p)) s).2.2 := by rw [hu12, si_ne _ _ (by decide)]; exact j5
      have c12 : u12.1 6 = nI (1 + cnt (tn w h fo (F p)) s) := by rw [hu12, si_ne _ _ (by decide), hu11, si_ne _ _ (by decide)]; exact i6
      have f12 : fr [18, 19] [3, 4, 5, 6] u0 u12 := by rw [hu12, hu11]; exact fr_si _ (by decide) (fr_si _ (by decide) hfr)
      have hC12 : CR w h fo (F p) (u12.2 18) (u12.2 19) s := by rw [hu12, hu11, si_a, si_a]; exact hC
      have hw1 : (ed w h fo (F p) (e0 w (F p)) (s + 1)).2.2 = nwf (cc w h fo (F p) (ed w h fo (F p) (e0 w (F p)) (s + 1)).1 (ed w h fo (F p) (e0 w (F p)) (s + 1)).2.1) (ed w h fo (F p) (e0 w (F p)) s).2.2 := rfl
      have hcs1 : cnt (tn w h fo (F p)) (s + 1) = cnt (tn w h fo (F p)) s + (if tn w h fo (F p) s then 1 else 0) := rfl
      have htn : tn w h fo (F p) s = !((ed w h fo (F p) (e0 w (F p)) (s + 1)).2.2 == (ed w h fo (F p) (e0 w (F p)) s).2.2) := rfl
      have j107 : jn_Walk_round_107 G Q (lp_Walk_round_45 G Q (d + 1)) (nI p) (zI (e0 w (F p)).1) (zI (e0 w (F p)).2.1) (nI s) u12 := by
        have nxt : ∀ u9 : pS, fr [18, 19] [3, 4, 5, 6] u0 u9 → u9.1 3 = u12.1 3 → u9.1 4 = u12.1 4 → u9.1 5 = nI (ed w h fo (F p) (e0 w (F p)) (s + 1)).2.2 → u9.1 6 = nI (1 + cnt (tn w h fo (F p)) (s + 1)) → CR w h fo (F p) (u9.2 18) (u9.2 19) (s + 1) → lp_Walk_round_45 G Q (d + 1) (nI p) (zI (e0 w (F p)).1) (zI (e0 w (F p)).2.1) (nI (s + 1)) u9 := fun u9 g1 g2 g3 g4 g5 g6 => ih (s + 1) u9 (by omega) g1 (by rw [g2]; exact x12) (by rw [g3]; exact y12) g4 g5 g6
        have hnew := CR_new (w := w) (h := h) (fo := fo) (a := F p) hC12
        generalize hX : (ed w h fo (F p) (e0 w (F p)) (s + 1)).1 = X at *
        generalize hY : (ed w h fo (F p) (e0 w (F p)) (s + 1)).2.1 = Y at *
        generalize hT : (ed w h fo (F p) (e0 w (F p)) s).2.2 = t at *
        generalize hT1 : (ed w h fo (F p) (e0 w (F p)) (s + 1)).2.2 = t1 at *
        unfold nwf at hw1
        unfold jn_Walk_round_107 wp_Walk_turn
        intro q1 hq1
        rw [w12, show nI t + 4 = nI (t + 4) by rw [li_4, nI_add], show nI (t + 4) - 1 = nI (t + 3) from nI_pred (t + 3), show (4 : Int32) = nI 4 from li_4, nI_mod (by omega) (by omega)] at hq1
        rw [w12, hq1]
        refine k_ahead H P (CPw_fr C f12) hp (by omega) (by omega) (by omega) (by omega) (by omega) x12 y12 ?_
        cases c1 : cc w h fo (F p) X Y t with
        | false =>
          rw [if_pos c1] at hw1
          refine b_t rfl ?_
          intro u10 hu10
          rw [w12, nI_1, show (4 : Int32) = nI 4 from li_4, nI_mod (by omega) (by omega)] at hu10
          have ht1 : tn w h fo (F p) s = true := by rw [htn, hw1]; simp; omega
          rw [ht1] at hcs1
          refine k_note H (k := 1 + cnt (tn w h fo (F p)) s) (by omega) (x := u12.1 3) (y := u12.1 4) (by rw [hu10, si_ne _ _ (by decide)]) (by rw [hu10, si_ne _ _ (by decide)]) (by rw [hu10, si_ne _ _ (by decide)]; exact c12) ?_
          intro u9 f9 a18 a19 a6 t15 ht15
          rw [ht15, nI_1]
          refine nxt u9 (fr_trans f12 (fr_trans (v := u10) (by rw [hu10]; exact fr_si _ (by decide) (fr_refl _ _ _)) (fr_mono f9 (by decide) (by decide)))) (by rw [f9.2 3 (by decide), hu10, si_ne _ _ (by decide)]) (by rw [f9.2 4 (by decide), hu10, si_ne _ _ (by decide)]) (by rw [f9.2 5 (by decide), hu10, si_eq, hw1]) (by rw [a6, hcs1]; rfl) ?_
          rw [a18, a19, hu10, si_a, x12, y12]; exact hnew
        | true =>
          rw [if_neg (by rw [c1]; decide)] at hw1
          refine b_f (by decide) ?_
          refine k_ahead H P (CPw_fr C f12) hp (by omega) (by omega) (by omega) (by omega) (by omega) x12 y12 ?_
          cases c2 : cc w h fo (F p) X Y ((t + 3) % 4) with
          | false =>
            rw [if_neg (by rw [c2]; decide)] at hw1
            have ht1 : tn w h fo (F p) s = false := by rw [htn, hw1]; simp
            rw [ht1] at hcs1
            refine b_t rfl ?_
            intro t15 ht15
            rw [ht15, nI_1]
            exact nxt u12 f12 rfl rfl (by rw [w12, hw1]) (by rw [c12, hcs1]; rfl) (CR_keep hC12 ht1)
          | true =>
            rw [if_pos c2] at hw1
            refine b_f (by decide) ?_
            intro u10 hu10
            have ht1 : tn w h fo (F p) s = true := by rw [htn, hw1]; simp; omega
            rw [ht1] at hcs1
            refine k_note H (k := 1 + cnt (tn w h fo (F p)) s) (by omega) (x := u12.1 3) (y := u12.1 4) (by rw [hu10, si_ne _ _ (by decide)]) (by rw [hu10, si_ne _ _ (by decide)]) (by rw [hu10, si_ne _ _ (by decide)]; exact c12) ?_
            intro u9 f9 a18 a19 a6 t15 ht15
            rw [ht15, nI_1]
            refine nxt u9 (fr_trans f12 (fr_trans (v := u10) (by rw [hu10]; exact fr_si _ (by decide) (fr_refl _ _ _)) (fr_mono f9 (by decide) (by decide)))) (by rw [f9.2 3 (by decide), hu10, si_ne _ _ (by decide)]) (by rw [f9.2 4 (by decide), hu10, si_ne _ _ (by decide)]) (by rw [f9.2 5 (by decide), hu10, si_eq, hw1]) (by rw [a6, hcs1]; rfl) ?_
            rw [a18, a19, hu10, si_a, x12, y12]; exact hnew
      have hex : zI (ed w h fo (F p) (e0 w (F p)) (s + 1)).1 = zI (e0 w (F p)).1 ↔ (ed w h fo (F p) (e0 w (F p)) (s + 1)).1 = (e0 w (F p)).1 := by
        have := ed_b P hp 0
        have e00 : ed w h fo (F p) (e0 w (F p)) 0 = e0 w (F p) := rfl
        rw [e00] at this
        exact zI_eq (by omega) (by omega) (by omega) (by omega)
      have hey : zI (ed w h fo (F p) (e0 w (F p)) (s + 1)).2.1 = zI (e0 w (F p)).2.1 ↔ (ed w h fo (F p) (e0 w (F p)) (s + 1)).2.1 = (e0 w (F p)).2.1 := by
        have := ed_b P hp 0
        have e00 : ed w h fo (F p) (e0 w (F p)) 0 = e0 w (F p) := rfl
        rw [e00] at this
        exact zI_eq (by omega) (by omega) (by omega) (by omega)
      rw [x12, y12, hex, hey]
      exact ⟨fun q1 => ⟨fun q2 => absurd ⟨q1, q2⟩ n5', fun _ => j107⟩, fun _ => j107⟩
  unfold wp_Walk_round
  rw [e_firstX H hcN P.2.1 A hp, e_leastY H hcN P.2.1 A hp]
  have ely : ly p = F p / w := (A p hp).2.2.2.2.2.symm
  rw [ely]
  intro u5 hu5 u6 hu6 u7 hu7 u8 hu8
  have f8 : fr [18, 19] [3, 4, 5, 6] u0 u8 := by
    rw [hu8, hu7, hu6, hu5]
    exact fr_si _ (by decide) (fr_si _ (by decide) (fr_si _ (by decide) (fr_si _ (by decide) (fr_refl _ _ _))))
  have i3 : u8.1 3 = nI (F p % w) := by rw [hu8, hu7, hu6, hu5]; simp (disch := decide) only [si_ne, si_eq]
  have i4 : u8.1 4 = nI (F p / w) := by rw [hu8, hu7, hu6, hu5]; simp (disch := decide) only [si_ne, si_eq]
  have i5 : u8.1 5 = nI 0 := by rw [hu8, hu7, hu6, hu5]; simp (disch := decide) only [si_ne, si_eq]; exact li_0
  have i6 : u8.1 6 = nI 0 := by rw [hu8, hu7, hu6, hu5]; simp (disch := decide) only [si_ne, si_eq]; exact li_0
  refine k_note H (k := 0) (by omega) i3 i4 i6 ?_
  intro u9 f9 a18 a19 a6
  refine ⟨n - 1 + 1, ?_⟩
  have e1 : nI (F p % w) = zI (e0 w (F p)).1 := nI_z _
  have e2 : nI (F p / w) = zI (e0 w (F p)).2.1 := nI_z _
  rw [e1, e2, li_0]
  refine loop (n - 1) 0 u9 (by omega) (fr_trans f8 (fr_mono f9 (by decide) (by decide))) (by rw [f9.2 3 (by decide), i3]; exact e1) (by rw [f9.2 4 (by decide), i4]; exact e2) (by rw [f9.2 5 (by decide), i5]; rfl) (by rw [a6]; rfl) ⟨?_, ?_, fun i hi => absurd hi (Nat.not_lt_zero i)⟩
  · rw [a18, upd_eq, e1]
  · rw [a19, upd_eq, e2]
end
