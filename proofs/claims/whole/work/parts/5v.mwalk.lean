/-! OWN ROWS: the reference's walk; outline and corner agree. -/
section
variable {w h K : Nat} {G : pG} {f : Nat → Int32} {fo F : Nat → Nat} {c p : Nat} {v : pS}
theorem m_ahead (M : MI w h K G) (P : PS w h f fo F c) (C : MPw (w * h) fo v) (hp : p < c) {x y : Int} {s : Nat} (hs : s < 4) (x1 : 0 ≤ x) (x2 : x ≤ 20) (y1 : 0 ≤ y) (y2 : y ≤ 20) {Q : Int32 → pS → Prop} : (Q (bI (cc w h fo (F p) x y s)) v → wp_Model_ahead G (nI p) (zI x) (zI y) (nI s) 1 v Q) ∧ (Q (bI (cc w h fo (F p) x y ((s + 3) % 4))) v → wp_Model_ahead G (nI p) (zI x) (zI y) (nI s) 0 v Q) := by
  have fin : ∀ (X Y : Int32) (x' y' : Int) (t : Nat), X = zI x' → Y = zI y' → x' = x + ax t → y' = y + ay t → Q (bI (cc w h fo (F p) x y t)) v → jn_Model_ahead_95 G Q Y X (nI p) v := by
    intro X Y x' y' t eX eY ex ey hq
    have hb := ax_b (s := t)
    rw [eX, eY]
    unfold jn_Model_ahead_95
    unfold cc at hq
    rw [← ex, ← ey] at hq
    refine m_isOf M P C hp (by omega) (by omega) (by omega) (by omega) (fun hi => ?_) (fun hi => ?_)
    · rw [inb_inp.mpr hi] at hq; exact ⟨rfl, hq⟩
    · have : inb w h fo (F p) x' y' = false := by
        cases e : inb w h fo (F p) x' y' with
        | false => rfl
        | true => exact absurd (inb_inp.mp e) hi
      rw [this] at hq; exact ⟨rfl, hq⟩
  have sx : zI x - 1 = zI (x - 1) := by rw [lz_1, zI_sub]
  have sy : zI y - 1 = zI (y - 1) := by rw [lz_1, zI_sub]
  refine ⟨fun hq => ?_, fun hq => ?_⟩
  · rcases lt4 hs with rfl | rfl | rfl | rfl
    · exact b_f (by decide) (b_f (by decide) (b_f (by decide) (b_f (by decide) (b_f (by decide) (b_t rfl (b_f (by decide) (b_t rfl (b_t rfl (fin _ _ x y 0 rfl rfl (by simp [ax]) (by simp [ay]) hq)))))))))
    · exact b_f (by decide) (b_t rfl (b_f (by decide) (b_f (by decide) (b_f (by decide) (b_f (by decide) (b_f (by decide) (b_t rfl (fin _ _ (x - 1) y 1 sx rfl (by simp [ax]; omega) (by simp [ay]) hq))))))))
    · exact b_t rfl (b_f (by decide) (b_t rfl (b_f (by decide) (b_f (by decide) (b_f (by decide) (fin _ _ (x - 1) (y - 1) 2 sx sy (by simp [ax]; omega) (by simp [ay]; omega) hq))))))
    · exact b_f (by decide) (b_f (by decide) (b_t rfl (b_f (by decide) (b_t rfl (b_t rfl (b_f (by decide) (fin _ _ x (y - 1) 3 rfl sy (by simp [ax]) (by simp [ay]; omega) hq)))))))
  · rcases lt4 hs with rfl | rfl | rfl | rfl
    · exact b_f (by decide) (b_f (by decide) (b_f (by decide) (b_f (by decide) (b_f (by decide) (b_t rfl (b_t rfl (b_t rfl (b_f (by decide) (fin _ _ x (y - 1) 3 rfl sy (by simp [ax]) (by simp [ay]; omega) hq)))))))))
    · exact b_f (by decide) (b_t rfl (b_t rfl (b_f (by decide) (b_f (by decide) (b_f (by decide) (b_f (by decide) (b_t rfl (b_t rfl (fin _ _ x y 0 rfl rfl (by simp [ax]) (by simp [ay]) hq)))))))))
    · exact b_t rfl (b_f (by decide) (b_t rfl (b_t rfl (b_f (by decide) (b_f (by decide) (b_t rfl (fin _ _ (x - 1) y 1 sx rfl (by simp [ax]; omega) (by simp [ay]) hq)))))))
    · exact b_f (by decide) (b_f (by decide) (b_t rfl (b_t rfl (b_t rfl (b_f (by decide) (b_f (by decide) (fin _ _ (x - 1) (y - 1) 2 sx sy (by simp [ax]; omega) (by simp [ay]; omega) hq)))))))
theorem m_move {x y : Int} {s : Nat} (hs : s < 4) {x1 x4 x5 : Int32} {Q : pS → Prop} {k41 : Int32 → Int32 → Int32 → Int32 → Int32 → Int32 → Int32 → pS → Prop}
    (hq : (zI (x + dx s) = x4 → ((zI (y + dy s) = x5 → jn_Model_walk_136 G Q k41 x1 (zI (x + dx s)) (zI (y + dy s)) x4 x5 (nI s) 0 v) ∧ (¬ zI (y + dy s) = x5 → jn_Model_walk_136 G Q k41 x1 (zI (x + dx s)) (zI (y + dy s)) x4 x5 (nI s) 1 v))) ∧ (¬ zI (x + dx s) = x4 → jn_Model_walk_136 G Q k41 x1 (zI (x + dx s)) (zI (y + dy s)) x4 x5 (nI s) 1 v)) : jn_Model_walk_72 G Q k41 x1 (zI x) (zI y) x4 x5 (nI s) v := by
  have k117 : ∀ (X y6 : Int32), X = zI (x + dx s) → y6 = zI (dy s) → jn_Model_walk_117 G Q k41 x1 X x4 x5 (nI s) y6 (zI y) v := by
    intro X y6 eX e6
    unfold jn_Model_walk_117
    intro t ht
    rw [e6, zI_add] at ht
    rw [ht, eX]
    exact hq
  have k93 : ∀ y6 : Int32, y6 = zI (dx s) → jn_Model_walk_93 G Q k41 x1 (zI y) x4 x5 (nI s) y6 (zI x) v := by
    intro y6 e6
    unfold jn_Model_walk_93
    intro t ht
    rw [e6, zI_add] at ht
    rcases lt4 hs with rfl | rfl | rfl | rfl
    · exact b_f (by decide) (b_f (by decide) (k117 _ _ ht (by decide)))
    · exact b_t rfl (k117 _ _ ht (by decide))
    · exact b_f (by decide) (b_f (by decide) (k117 _ _ ht (by decide)))
    · exact b_f (by decide) (b_t rfl (k117 _ _ ht (by decide)))
  unfold jn_Model_walk_72
  rcases lt4 hs with rfl | rfl | rfl | rfl
  · exact b_t rfl (k93 _ (by decide))
  · exact b_f (by decide) (b_f (by decide) (k93 _ (by decide)))
  · exact b_f (by decide) (b_t rfl (k93 _ (by decide)))
  · exact b_f (by decide) (b_f (by decide) (k93 _ (by decide)))
theorem m_walk (M : MI w h K G) (P : PS w h f fo F c) {v0 : pS} (C : MPw (w * h) fo v0) (hp : p < c) {n : Nat} (hn : Nst w h fo (F p) n) {Q : pS → Prop}
    (hQ : ∀ v, fr [7, 8] [3] v0 v → v.1 3 = nI (1 + cnt (tn w h fo (F p)) (n - 1)) → CR w h fo (F p) (v.2 7) (v.2 8) (n - 1) → Q v) : wp_Model_walk G (nI p) v0 Q := by
  have B := mB M
  have hcN := PS_c P
  have hF := Enu_F P.2.1 hp
  have gx := gr_x hF.1
  have gy := gr_y hF.1
  obtain ⟨n1, n2, n3, n4, n5⟩ := hn
  have loop : ∀ (d s : Nat) (v : pS), s + d + 1 = n → fr [7, 8] [3] v0 v → v.1 3 = nI (1 + cnt (tn w h fo (F p)) s) → CR w h fo (F p) (v.2 7) (v.2 8) s → jn_Model_walk_72 G Q (lp_Model_walk_41 G Q (d + 1)) (nI p) (zI (ed w h fo (F p) (e0 w (F p)) s).1) (zI (ed w h fo (F p) (e0 w (F p)) s).2.1) (zI (e0 w (F p)).1) (zI (e0 w (F p)).2.1) (nI (ed w h fo (F p) (e0 w (F p)) s).2.2) v := by
    intro d
    induction d with
    | zero =>
      intro s v hd hfr i3 hC
      have hb := ed_b P hp s
      have hb1 := ed_b P hp (s + 1)
      have esn : s + 1 = n := by omega
      rw [← esn] at n4
      have eX : (ed w h fo (F p) (e0 w (F p)) s).1 + dx (ed w h fo (F p) (e0 w (F p)) s).2.2 = (ed w h fo (F p) (e0 w (F p)) (s + 1)).1 := rfl
      have eY : (ed w h fo (F p) (e0 w (F p)) s).2.1 + dy (ed w h fo (F p) (e0 w (F p)) s).2.2 = (ed w h fo (F p) (e0 w (F p)) (s + 1)).2.1 := rfl
      refine m_move hb.2.2.2.2 ?_
      rw [eX, eY, n4.1, n4.2]
      refine b_t rfl (b_t rfl ?_)
      rw [n4.1, n4.2] at hb1
      have fin : ∀ y8 t : Int32, (t = (nI (ed w h fo (F p) (e0 w (F p)) s).2.2 + y8) - (nI (ed w h fo (F p) (e0 w (F p)) s).2.2 + y8) / 4 * 4 → lp_Model_walk_41 G Q (0 + 1) (nI p) (zI (e0 w (F p)).1) (zI (e0 w (F p)).2.1) (zI (e0 w (F p)).1) (zI (e0 w (F p)).2.1) t 0 v) := by
        intro y8 t _
        unfold lp_Model_walk_41
        rw [← esn, Nat.add_sub_cancel] at hQ
        exact b_t rfl (hQ v hfr i3 hC)
      unfold jn_Model_walk_136
      refine (m_ahead M P (MPw_fr C hfr) hp hb.2.2.2.2 (by omega) (by omega) (by omega) (by omega)).1 ?_
      cases c1 : cc w h fo (F p) (e0 w (F p)).1 (e0 w (F p)).2.1 (ed w h fo (F p) (e0 w (F p)) s).2.2 with
      | false =>
        refine b_t rfl ?_
        unfold jn_Model_walk_173
        exact b_t rfl (fin 1)
      | true =>
        refine b_f (by decide) ?_
        refine (m_ahead M P (MPw_fr C hfr) hp hb.2.2.2.2 (by omega) (by omega) (by omega) (by omega)).2 ?_
        cases c2 : cc w h fo (F p) (e0 w (F p)).1 (e0 w (F p)).2.1 (((ed w h fo (F p) (e0 w (F p)) s).2.2 + 3) % 4) with
        | false =>
          refine b_t rfl ?_
          unfold jn_Model_walk_173
          exact b_t rfl (fin 0)
        | true =>
          refine b_f (by decide) ?_
          unfold jn_Model_walk_173
          exact b_t rfl (fin 3)
    | succ d ih =>
      intro s v hd hfr i3 hC
      have hb := ed_b P hp s
      have hb1 := ed_b P hp (s + 1)
      have hb0 := ed_b P hp 0
      have e00 : ed w h fo (F p) (e0 w (F p)) 0 = e0 w (F p) := rfl
      rw [e00] at hb0
      have n5' := n5 (s + 1) (by omega) (by omega)
      have hcs := cnt_le (tn w h fo (F p)) s
      have eX : (ed w h fo (F p) (e0 w (F p)) s).1 + dx (ed w h fo (F p) (e0 w (F p)) s).2.2 = (ed w h fo (F p) (e0 w (F p)) (s + 1)).1 := rfl
      have eY : (ed w h fo (F p) (e0 w (F p)) s).2.1 + dy (ed w h fo (F p) (e0 w (F p)) s).2.2 = (ed w h fo (F p) (e0 w (F p)) (s + 1)).2.1 := rfl
      have hw1 : (ed w h fo (F p) (e0 w (F p)) (s + 1)).2.2 = nwf (cc w h fo (F p) (ed w h fo (F p) (e0 w (F p)) (s + 1)).1 (ed w h fo (F p) (e0 w (F p)) (s + 1)).2.1) (ed w h fo (F p) (e0 w (F p)) s).2.2 := rfl
      have hcs1 : cnt (tn w h fo (F p)) (s + 1) = cnt (tn w h fo (F p)) s + (if tn w h fo (F p) s then 1 else 0) := rfl
      have htn : tn w h fo (F p) s = !((ed w h fo (F p) (e0 w (F p)) (s + 1)).2.2 == (ed w h fo (F p) (e0 w (F p)) s).2.2) := rfl
      have j136 : jn_Model_walk_136 G Q (lp_Model_walk_41 G Q (d + 1 + 1)) (nI p) (zI (ed w h fo (F p) (e0 w (F p)) (s + 1)).1) (zI (ed w h fo (F p) (e0 w (F p)) (s + 1)).2.1) (zI (e0 w (F p)).1) (zI (e0 w (F p)).2.1) (nI (ed w h fo (F p) (e0 w (F p)) s).2.2) 1 v := by
        have nxt : ∀ v9 : pS, fr [7, 8] [3] v0 v9 → v9.1 3 = nI (1 + cnt (tn w h fo (F p)) (s + 1)) → CR w h fo (F p) (v9.2 7) (v9.2 8) (s + 1) → lp_Model_walk_41 G Q (d + 1 + 1) (nI p) (zI (ed w h fo (F p) (e0 w (F p)) (s + 1)).1) (zI (ed w h fo (F p) (e0 w (F p)) (s + 1)).2.1) (zI (e0 w (F p)).1) (zI (e0 w (F p)).2.1) (nI (ed w h fo (F p) (e0 w (F p)) (s + 1)).2.2) 1 v9 := by
          intro v9 g1 g2 g3
          have := cnt_le (tn w h fo (F p)) (s + 1)
          unfold lp_Model_walk_41
          exact b_f (by decide) (b_f (by rw [g2]; exact nI_ne0 (by omega) (by omega)) (ih (s + 1) v9 (by omega) g1 g2 g3))
        have hnew := CR_new (w := w) (h := h) (fo := fo) (a := F p) hC
        generalize hX : (ed w h fo (F p) (e0 w (F p)) (s + 1)).1 = X at *
        generalize hY : (ed w h fo (F p) (e0 w (F p)) (s + 1)).2.1 = Y at *
        generalize hT : (ed w h fo (F p) (e0 w (F p)) s).2.2 = t at *
        generalize hT1 : (ed w h fo (F p) (e0 w (F p)) (s + 1)).2.2 = t1 at *
        unfold nwf at hw1
        have note : ∀ (a : Nat), 0 < a → a < 4 → t1 = (t + a) % 4 → tn w h fo (F p) s = true → jn_Model_walk_173 G Q (lp_Model_walk_41 G Q (d + 1 + 1)) (nI p) (zI X) (zI Y) (zI (e0 w (F p)).1) (zI (e0 w (F p)).2.1) (nI t) 1 (nI a) v := by
          intro a ha ha4 hta ht1
          rw [ht1] at hcs1
          unfold jn_Model_walk_173
          have hv : vp_in (nI (1 + cnt (tn w h fo (F p)) s)) 1700 := vp_in_nI (by omega) (by omega)
          rw [ml_8 M, ml_9 M]
          simp only [forall_eq]
          simp only [sa_i, i3]
          rw [nI_clamp (n := 1 + cnt (tn w h fo (F p)) s) (by omega), nI_1, nI_add, show (4 : Int32) = nI 4 from li_4, nI_mod (by omega) (by omega), ← hta]
          refine b_f (by decide) (b_f (nI_nle ha (by omega)) ⟨hv, hv, ?_⟩)
          refine nxt _ (fr_si _ (by decide) (fr_sa _ (by decide) (fr_sa _ (by decide) hfr))) ?_ ?_
          · rw [si_eq, hcs1]; rfl
          · simp (disch := decide) only [si_a, sa_eq, sa_ne]; exact hnew
        unfold jn_Model_walk_136
        refine (m_ahead M P (MPw_fr C hfr) hp hb.2.2.2.2 (by omega) (by omega) (by omega) (by omega)).1 ?_
        cases c1 : cc w h fo (F p) X Y t with
        | false =>
          rw [if_pos c1] at hw1
          refine b_t rfl ?_
          rw [show (1 : Int32) = nI 1 from li_1]
          exact note 1 (by omega) (by omega) hw1 (by rw [htn, hw1]; simp; omega)
        | true =>
          rw [if_neg (by rw [c1]; decide)] at hw1
          refine b_f (by decide) ?_
          refine (m_ahead M P (MPw_fr C hfr) hp hb.2.2.2.2 (by omega) (by omega) (by omega) (by omega)).2 ?_
          cases c2 : cc w h fo (F p) X Y ((t + 3) % 4) with
          | false =>
            rw [if_neg (by rw [c2]; decide)] at hw1
            have ht1 : tn w h fo (F p) s = false := by rw [htn, hw1]; simp
            rw [ht1] at hcs1
            refine b_t rfl ?_
            unfold jn_Model_walk_173
            refine b_f (by decide) (b_t (by decide) ?_)
            intro t22 ht22
            rw [show nI t + 0 = nI t by rw [li_0, nI_add, Nat.add_zero], show (4 : Int32) = nI 4 from li_4, nI_mod (by omega) (by omega), show t % 4 = t by omega, ← hw1] at ht22
            rw [ht22]
            exact nxt v hfr (by rw [i3, hcs1]; rfl) (CR_keep hC ht1)
          | true =>
            rw [if_pos c2] at hw1
            refine b_f (by decide) ?_
            rw [show (3 : Int32) = nI 3 from li_3]
            exact note 3 (by omega) (by omega) hw1 (by rw [htn, hw1]; simp; omega)
      refine m_move hb.2.2.2.2 ?_
      rw [eX, eY, zI_eq (by omega) (by omega) (by omega) (by omega), zI_eq (by omega) (by omega) (by omega) (by omega)]
      exact ⟨fun q1 => ⟨fun q2 => absurd ⟨q1, q2⟩ n5', fun _ => j136⟩, fun _ => j136⟩
  have hw0 : ¬ nI w = 0 := nI_ne0 (by omega) (by omega)
  have hvp : vp_in (nI p) 400 := vp_in_nI (by omega) (by omega)
  unfold wp_Model_walk
  rw [ml_5 M, mp_0 M, nI_clamp (n := p) (by omega), (MP_at C P.2.1 hp).1, nI_mod (by omega) (by omega), nI_div (by omega) (by omega)]
  refine ⟨hvp, hw0, ?_⟩
  intro t1 ht1
  refine ⟨hvp, hw0, ?_⟩
  intro t2 ht2 u3 hu3
  have e1 : t1 = zI (e0 w (F p)).1 := by rw [ht1]; exact nI_z _
  have e2 : t2 = zI (e0 w (F p)).2.1 := by rw [ht2]; exact nI_z _
  refine ⟨n - 1 + 1 + 1, ?_⟩
  rw [e1, e2]
  unfold lp_Model_walk_41
  rw [ml_8 M, ml_9 M]
  refine b_f (by decide) (b_t (by rw [hu3, si_eq]) ⟨by rw [li_0]; exact vp_in_nI (by omega) (by omega), ?_⟩)
  intro u28 hu28
  refine ⟨by rw [li_0]; exact vp_in_nI (by omega) (by omega), ?_⟩
  intro u29 hu29 u30 hu30
  rw [show (0 : Int32).toNatClampNeg = 0 from rfl] at hu28 hu29
  refine loop (n - 1) 0 u30 (by omega) ?_ ?_ ⟨?_, ?_, fun i hi => absurd hi (Nat.not_lt_zero i)⟩
  · rw [hu30, hu29, hu28, hu3]
    exact fr_si _ (by decide) (fr_sa _ (by decide) (fr_sa _ (by decide) (fr_si _ (by decide) (fr_refl _ _ _))))
  · rw [hu30, si_eq]; exact li_1
  · rw [hu30, si_a, hu29, sa_ne _ _ (by decide), hu28, sa_eq, upd_eq]
  · rw [hu30, si_a, hu29, sa_eq, upd_eq]
end
section
variable {w h K : Nat} {G Gm : pG} {u v : pS} {Q : Int32 → pS → Prop} {X : Nat → pS → Prop}
theorem ob_outline (H : GI w h K G) (M : MI w h K Gm) (R : Rel w h K u v) (x1 : Int32)
    (hr : ∀ r u', wp_Model_outline Gm x1 v (fun r' v' => v'.1 0 = 0 ∧ r' = r ∧ Rel w h K u' v') → Q r u')
    (h0 : ∀ u', wp_Model_outline Gm x1 v (fun r' v' => v'.1 0 = 1 ∧ Rel w h K u' v') → X 0 u')
    (h1 : ∀ u', wp_Model_outline Gm x1 v (fun r' v' => v'.1 0 = 2 ∧ Rel w h K u' v') → X 1 u') : wp_PI_outline G x1 u Q X := by
  have B := gB H
  obtain ⟨x, xa, xb, rfl⟩ := zI_of x1
  unfold wp_PI_outline
  refine g_piece R x xa xb (by omega) (fun fo F c lx mx ly my row p T e hp hxp => ?_) (fun e => h0 u ?_) (fun fo F c lx mx ly my row T e ho => h1 u ?_)
  · have hcN := PS_c T.1
    subst hxp
    rw [← nI_z] at hr ⊢
    obtain ⟨n, hn⟩ := Nst_ex T.1 hp
    refine k_round H T.1 T.2.1 T.2.2.2.2.2.1 hp hn ?_
    intro u2 f2 e6 hC
    rw [e6]
    refine hr _ _ ?_
    unfold wp_Model_outline
    refine m_npok (by omega) (R_v2 R e) (PT_c T).2 hp (b_t rfl ?_)
    refine m_walk M T.1 (T_si T 0).2.2.1 hp hn ?_
    intro v2 g2 e3 hC2
    exact ⟨by rw [g2.2 0 (by decide), si_eq], e3, Rel_fr R (fr_mono f2 (by decide) (by decide)) (fr_trans (fr_si (k := 0) 0 (by decide) (fr_refl _ _ _)) (fr_mono g2 (by decide) (by decide)))⟩
  · unfold wp_Model_outline
    exact m_np0 (R.2.2.1.mp e) (b_f (by decide) ⟨si_eq _ _ _, R_si R 1⟩)
  · unfold wp_Model_outline
    have hcN := PS_c T.1
    exact m_np2 xa xb (by omega) (R_v2 R e) (PT_c T).2 ho (b_f (by decide) ⟨si_eq _ _ _, R_si R 2⟩)
theorem ob_corner (H : GI w h K G) (M : MI w h K Gm) (R : Rel w h K u v) (x1 x2 x3 : Int32)
    (hr : ∀ r u', wp_Model_corner Gm x1 x2 x3 v (fun r' v' => v'.1 0 = 0 ∧ r' = r ∧ Rel w h K u' v') → Q r u')
    (h0 : ∀ u', wp_Model_corner Gm x1 x2 x3 v (fun r' v' => v'.1 0 = 1 ∧ Rel w h K u' v') → X 0 u')
    (h1 : ∀ u', wp_Model_corner Gm x1 x2 x3 v (fun r' v' => v'.1 0 = 2 ∧ Rel w h K u' v') → X 1 u') : wp_PI_corner G x1 x2 x3 u Q X := by
  have B := gB H
  obtain ⟨x, xa, xb, rfl⟩ := zI_of x1
  obtain ⟨y, ya, yb, rfl⟩ := zI_of x2
  obtain ⟨z, za, zb, rfl⟩ := zI_of x3
  have cy0 : zI y < 0 ↔ y < 0 := by rw [lz_0]; exact zI_lt ya yb (by omega) (by omega)
  have cz0 : zI z < 0 ↔ z < 0 := by rw [lz_0]; exact zI_lt za zb (by omega) (by omega)
  have cz1 : zI z ≤ 1 ↔ z ≤ 1 := by rw [lz_1]; exact zI_le za zb (by omega) (by omega)
  have czE : zI z = 0 ↔ z = 0 := by rw [lz_0]; exact zI_eq za zb (by omega) (by omega)
  unfold wp_PI_corner
  refine g_piece R x xa xb (by omega) (fun fo F c lx mx ly my row p T e hp hxp => ?_) (fun e => h0 u ?_) (fun fo F c lx mx ly my row T e ho => h1 u ?_)
  · have hcN := PS_c T.1
    subst hxp
    rw [← nI_z] at hr h1 ⊢
    obtain ⟨n, hn⟩ := Nst_ex T.1 hp
    have hcl := cnt_le (tn w h fo (F p)) (n - 1)
    have hn3 := hn.2.2.1
    have hn1 := hn.1
    have start : ∀ (Q2 : Int32 → pS → Prop), (∀ v2, fr [7, 8] [0, 3] v v2 → v2.1 3 = nI (1 + cnt (tn w h fo (F p)) (n - 1)) → CR w h fo (F p) (v2.2 7) (v2.2 8) (n - 1) → ((y < 0 → jn_Model_corner_42 Gm Q2 (zI y) (zI z) 2 v2) ∧ (¬ y < 0 → (((1 + cnt (tn w h fo (F p)) (n - 1) : Nat) : Int) ≤ y → jn_Model_corner_42 Gm Q2 (zI y) (zI z) 2 v2) ∧ (¬ ((1 + cnt (tn w h fo (F p)) (n - 1) : Nat) : Int) ≤ y → ((z < 0 → jn_Model_corner_42 Gm Q2 (zI y) (zI z) 2 v2) ∧ (¬ z < 0 → ((z ≤ 1 → jn_Model_corner_42 Gm Q2 (zI y) (zI z) 0 v2) ∧ (¬ z ≤ 1 → jn_Model_corner_42 Gm Q2 (zI y) (zI z) 2 v2))))))) ) → wp_Model_corner Gm (nI p) (zI y) (zI z) v Q2 := by
      intro Q2 hq
      unfold wp_Model_corner
      refine m_npok (by omega) (R_v2 R e) (PT_c T).2 hp (b_t rfl ?_)
      refine m_walk M T.1 (T_si T 0).2.2.1 hp hn ?_
      intro v2 g2 e3 hC2
      have := hq v2 (fr_trans (fr_si (k := 0) 0 (by decide) (fr_refl _ _ _)) (fr_mono g2 (by decide) (by decide))) e3 hC2
      rw [e3, nI_z (1 + cnt (tn w h fo (F p)) (n - 1)), zI_le (by omega) (by omega) ya yb, cy0, cz0, cz1]
      exact this
    have two : ∀ (u' v2 : pS), Rel w h K u' v2 → jn_Model_corner_42 Gm (fun r' v' => v'.1 0 = 2 ∧ Rel w h K u' v') (zI y) (zI z) 2 v2 := by
      intro u' v2 R2
      unfold jn_Model_corner_42
      intro u6 hu6
      rw [hu6]
      exact b_f (by rw [si_eq]; decide) ⟨si_eq _ _ _, R_si R2 2⟩
    rw [show (2 : Int32) = nI 2 from li_2]
    refine g_index z 2 za zb (by omega) (fun z0 z2 => ?_) (fun ho => h1 u (start _ ?_))
    · refine k_round H T.1 T.2.1 T.2.2.2.2.2.1 hp hn ?_
      intro u3 f3 e6 hC
      rw [e6]
      have RR : ∀ v2, fr [7, 8] [0, 3] v v2 → Rel w h K u3 v2 := fun v2 g => Rel_fr R (fr_mono f3 (by decide) (by decide)) (fr_mono g (by decide) (by decide))
      refine g_index y (1 + cnt (tn w h fo (F p)) (n - 1)) ya yb (by omega) (fun y0 y1 => ?_) (fun ho => h1 u3 (start _ ?_))
      · obtain ⟨k, rfl⟩ := Int.eq_ofNat_of_zero_le y0
        have hk : k < 1 + cnt (tn w h fo (F p)) (n - 1) := by omega
        have hcl2 : (zI (k : Int)).toNatClampNeg = k := by rw [← nI_z]; exact nI_clamp (by omega)
        have hv : vp_in (zI (k : Int)) (2 * (w + 1) * (h + 1)) := by rw [← nI_z]; exact vp_in_nI (by omega) (by omega)
        have hv2 : vp_in (zI (k : Int)) 1700 := by rw [← nI_z]; exact vp_in_nI (by omega) (by omega)
        have ans : ∀ r : Int32, (z = 0 → r = u3.2 18 k) → (¬ z = 0 → r = u3.2 19 k) → Q r u3 := by
          intro r r0 r1
          refine hr r u3 (start _ ?_)
          intro v2 g2 e3 hC2
          have hu := CR_u hC hC2 hk
          refine b_f (by omega) (b_f (by omega) (b_f (by omega) (b_t (by omega) ?_)))
          unfold jn_Model_corner_42
          intro u6 hu6
          rw [hu6, ml_8 M, ml_9 M, hcl2, czE]
          refine b_t (by rw [si_eq]; decide) ⟨fun ez => ⟨hv2, si_eq _ _ _, ?_, R_si (RR v2 g2) 0⟩, fun ez => ⟨hv2, si_eq _ _ _, ?_, R_si (RR v2 g2) 0⟩⟩
          · rw [si_a, r0 ez, hu.1]
          · rw [si_a, r1 ez, hu.2]
        unfold wp_Walk_cornerX wp_Walk_cornerY
        rw [gl_32 H, gl_33 H, hcl2, czE]
        exact ⟨fun ez => ⟨hv, ans _ (fun _ => rfl) (fun q => absurd ez q)⟩, fun ez => ⟨hv, ans _ (fun q => absurd q ez) (fun _ => rfl)⟩⟩
      · intro v2 g2 e3 hC2
        refine ⟨fun _ => two _ _ (RR v2 g2), fun e1 => ⟨fun _ => two _ _ (RR v2 g2), fun e2 => ?_⟩⟩
        exact absurd ⟨by omega, by omega⟩ ho
    · intro v2 g2 e3 hC2
      have RR : Rel w h K u v2 := Rel_v R (fr_mono g2 (by decide) (by decide))
      refine ⟨fun _ => two _ _ RR, fun e1 => ⟨fun _ => two _ _ RR, fun e2 => ⟨fun _ => two _ _ RR, fun e3 => ⟨fun e4 => absurd ⟨by omega, by omega⟩ ho, fun _ => two _ _ RR⟩⟩⟩⟩
  · unfold wp_Model_corner
    exact m_np0 (R.2.2.1.mp e) (b_f (by decide) ⟨si_eq _ _ _, R_si R 1⟩)
  · unfold wp_Model_corner
    have hcN := PS_c T.1
    exact m_np2 xa xb (by omega) (R_v2 R e) (PT_c T).2 ho (b_f (by decide) ⟨si_eq _ _ _, R_si R 2⟩)
end
