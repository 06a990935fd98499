/-! OWN ROWS: numbers. Nats as ints (nI), Ints as ints (zI), comparisons under bounds. -/
theorem li_0 : (0 : Int32) = nI 0 := by decide +kernel
theorem li_1 : (1 : Int32) = nI 1 := by decide +kernel
theorem li_2 : (2 : Int32) = nI 2 := by decide +kernel
theorem li_3 : (3 : Int32) = nI 3 := by decide +kernel
theorem li_4 : (4 : Int32) = nI 4 := by decide +kernel
theorem li_5 : (5 : Int32) = nI 5 := by decide +kernel
theorem li_6 : (6 : Int32) = nI 6 := by decide +kernel
theorem li_10 : (10 : Int32) = nI 10 := by decide +kernel
theorem li_100 : (100 : Int32) = nI 100 := by decide +kernel
theorem li_255 : (255 : Int32) = nI 255 := by decide +kernel
theorem li_400 : (400 : Int32) = nI 400 := by decide +kernel
theorem li_M : (1000000 : Int32) = nI 1000000 := by decide +kernel
theorem nI_mul (a b : Nat) : nI a * nI b = nI (a * b) := (Int32.ofNat_mul a b).symm
theorem nI_sub {a b : Nat} (h : b ≤ a) : nI a - nI b = nI (a - b) := by
  have h1 : nI (a - b) + nI b = nI a := by rw [nI_add, Nat.sub_add_cancel h]
  rw [← h1, Int32.add_sub_cancel]
def zI (z : Int) : Int32 := Int32.ofInt z
theorem zI_add (a b : Int) : zI a + zI b = zI (a + b) := (Int32.ofInt_add a b).symm
theorem zI_sub (a b : Int) : zI a - zI b = zI (a - b) := (Int32.ofInt_sub a b).symm
theorem zI_mul (a b : Int) : zI a * zI b = zI (a * b) := (Int32.ofInt_mul a b).symm
theorem zI_neg (a : Int) : - zI a = zI (-a) := (Int32.ofInt_neg a).symm
theorem zI_toInt {z : Int} (h : -2147483648 ≤ z) (h2 : z < 2147483648) : (zI z).toInt = z := by
  unfold zI
  exact Int32.toInt_ofInt_of_le (by omega) (by omega)
theorem zI_of (x : Int32) : ∃ z : Int, -2147483648 ≤ z ∧ z < 2147483648 ∧ x = zI z :=
  ⟨x.toInt, by have := x.le_toInt; omega, by have := x.toInt_lt; omega, (Int32.ofInt_toInt x).symm⟩
theorem nI_z (n : Nat) : nI n = zI (n : Int) := by
  unfold nI zI
  exact (Int32.ofInt_eq_ofNat).symm
theorem zI_lt {a b : Int} (h1 : -2147483648 ≤ a) (h2 : a < 2147483648) (h3 : -2147483648 ≤ b) (h4 : b < 2147483648) : zI a < zI b ↔ a < b := by
  rw [Int32.lt_iff_toInt_lt, zI_toInt h1 h2, zI_toInt h3 h4]
theorem zI_le {a b : Int} (h1 : -2147483648 ≤ a) (h2 : a < 2147483648) (h3 : -2147483648 ≤ b) (h4 : b < 2147483648) : zI a ≤ zI b ↔ a ≤ b := by
  rw [Int32.le_iff_toInt_le, zI_toInt h1 h2, zI_toInt h3 h4]
theorem zI_eq {a b : Int} (h1 : -2147483648 ≤ a) (h2 : a < 2147483648) (h3 : -2147483648 ≤ b) (h4 : b < 2147483648) : zI a = zI b ↔ a = b := by
  rw [← Int32.toInt_inj, zI_toInt h1 h2, zI_toInt h3 h4]
theorem lz_m1 : (-1 : Int32) = zI (-1) := by decide +kernel
theorem lz_0 : (0 : Int32) = zI 0 := by decide +kernel
theorem lz_1 : (1 : Int32) = zI 1 := by decide +kernel
theorem lz_2 : (2 : Int32) = zI 2 := by decide +kernel
theorem lz_3 : (3 : Int32) = zI 3 := by decide +kernel
theorem lz_4 : (4 : Int32) = zI 4 := by decide +kernel
theorem lz_6 : (6 : Int32) = zI 6 := by decide +kernel
theorem lz_10 : (10 : Int32) = zI 10 := by decide +kernel
theorem lz_100 : (100 : Int32) = zI 100 := by decide +kernel
theorem lz_255 : (255 : Int32) = zI 255 := by decide +kernel
theorem lz_400 : (400 : Int32) = zI 400 := by decide +kernel
theorem lz_M : (1000000 : Int32) = zI 1000000 := by decide +kernel
theorem zI_clamp {z : Int} (h : 0 ≤ z) (h2 : z < 2147483648) : (zI z).toNatClampNeg = z.toNat := by
  have h3 : (z.toNat : Int) = z := Int.toNat_of_nonneg h
  have h4 := nI_z z.toNat
  rw [h3] at h4
  rw [← h4, nI_clamp (by omega)]
theorem nI_nm1 {a : Nat} (h : a < 2147483648) : ¬ nI a = -1 := by
  rw [nI_z, lz_m1, zI_eq (by omega) (by omega) (by omega) (by omega)]; omega
theorem nI_m1n {a : Nat} (h : a < 2147483648) : ¬ -1 = nI a := fun e => nI_nm1 h e.symm
theorem nI_div {a b : Nat} (ha : a < 2147483648) (hb : b < 2147483648) : nI a / nI b = nI (a / b) := by
  have h1 : a / b ≤ a := Nat.div_le_self a b
  rw [← Int32.toInt_inj, Int32.toInt_div, nI_toInt (by omega), nI_toInt (by omega), nI_toInt (by omega)]
  have h2 : ((a : Int).tdiv (b : Int)) = ((a / b : Nat) : Int) := (Int.ofNat_tdiv a b).symm
  rw [h2]
  generalize a / b = q at h1
  exact Int.bmod_eq_of_le (by omega) (by omega)
theorem nI_mod {a b : Nat} (ha : a < 2147483648) (hb : b < 2147483648) : nI a - nI a / nI b * nI b = nI (a % b) := by
  rw [nI_div ha hb, nI_mul, nI_sub (Nat.div_mul_le_self a b)]
  congr 1
  have := Nat.div_add_mod a b
  rw [Nat.mul_comm] at this
  omega
theorem vp_in_z {z : Int} {N : Nat} (h : 0 ≤ z) (h2 : z < N) (hN : N < 2147483648) : vp_in (zI z) N := by
  have h3 : (z.toNat : Int) = z := Int.toNat_of_nonneg h
  have h4 := nI_z z.toNat
  rw [h3] at h4
  rw [← h4]
  exact vp_in_nI (by omega) (by omega)
theorem upd_eq (f : Nat → Int32) (k : Nat) (x : Int32) : upd f k x k = x := if_pos rfl
theorem upd_ne (f : Nat → Int32) {j k : Nat} (x : Int32) (h : j ≠ k) : upd f k x j = f j := if_neg h
/-- what may have changed from u to v: the arrays of A, the ints of I -/
def fr (A I : List Nat) (u v : pS) : Prop := (∀ k, k ∉ A → v.2 k = u.2 k) ∧ (∀ k, k ∉ I → v.1 k = u.1 k)
theorem fr_refl (A I : List Nat) (u : pS) : fr A I u u := ⟨fun _ _ => rfl, fun _ _ => rfl⟩
theorem fr_trans {A I : List Nat} {u v x : pS} (h : fr A I u v) (h2 : fr A I v x) : fr A I u x :=
  ⟨fun k hk => (h2.1 k hk).trans (h.1 k hk), fun k hk => (h2.2 k hk).trans (h.2 k hk)⟩
theorem fr_mono {A I A' I' : List Nat} {u v : pS} (h : fr A I u v) (h1 : ∀ k, k ∈ A → k ∈ A') (h2 : ∀ k, k ∈ I → k ∈ I') : fr A' I' u v :=
  ⟨fun k hk => h.1 k (fun q => hk (h1 k q)), fun k hk => h.2 k (fun q => hk (h2 k q))⟩
theorem fr_sa {A I : List Nat} {u v : pS} {k : Nat} (f : Nat → Int32) (hk : k ∈ A) (h : fr A I u v) : fr A I u (pw_sa v k f) := by
  refine ⟨fun j hj => ?_, h.2⟩
  have : j ≠ k := fun e => hj (e ▸ hk)
  show va_up v.2 k f j = u.2 j
  unfold va_up
  rw [if_neg this]
  exact h.1 j hj
theorem fr_si {A I : List Nat} {u v : pS} {k : Nat} (x : Int32) (hk : k ∈ I) (h : fr A I u v) : fr A I u (pw_si v k x) := by
  refine ⟨h.1, fun j hj => ?_⟩
  have : j ≠ k := fun e => hj (e ▸ hk)
  show va_up v.1 k x j = u.1 j
  unfold va_up
  rw [if_neg this]
  exact h.2 j hj
theorem sa_eq (u : pS) (k : Nat) (f : Nat → Int32) : (pw_sa u k f).2 k = f := if_pos rfl
theorem sa_ne (u : pS) {j k : Nat} (f : Nat → Int32) (h : j ≠ k) : (pw_sa u k f).2 j = u.2 j := if_neg h
theorem sa_i (u : pS) (k : Nat) (f : Nat → Int32) : (pw_sa u k f).1 = u.1 := rfl
theorem si_eq (u : pS) (k : Nat) (x : Int32) : (pw_si u k x).1 k = x := if_pos rfl
theorem si_ne (u : pS) {j k : Nat} (x : Int32) (h : j ≠ k) : (pw_si u k x).1 j = u.1 j := if_neg h
theorem si_a (u : pS) (k : Nat) (x : Int32) : (pw_si u k x).2 = u.2 := rfl
