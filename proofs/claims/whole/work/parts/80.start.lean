/-! OWN ROWS: what the law's start gives: statics, literals, kinds of throws. -/
theorem st_nc {args : Array Value} {s : State} {C T : String} (h : (Cond.not (Cond.castable C T)).before args s = true) : ∃ ci cj, s.vm.findClass C = some ci ∧ s.vm.findClass T = some cj ∧ s.vm.assignable ci cj = false := by
  simp only [Cond.before, Cond.holds, Cond.value] at h
  cases hc : s.vm.findClass C with
  | none => simp [hc] at h
  | some ci =>
    cases ht : s.vm.findClass T with
    | none => simp [hc, ht] at h
    | some cj => exact ⟨ci, cj, rfl, rfl, by simpa [hc, ht] using h⟩
theorem st_ca {args : Array Value} {s : State} {C : String} (h : (Cond.castable C C).before args s = true) : px_Ca C s := by
  obtain ⟨c, t, h1, h2, h3⟩ := Cond.castable_spec h
  rw [h1] at h2
  cases h2
  exact ⟨c, h1, h3⟩
theorem st_lit {args : Array Value} {s : State} {own tx : String} {k : Nat} (h : (Cond.stringRef own k tx).before args s = true) {c : ClassId} (hc : s.vm.findClass own = some c) : ∃ a, vk_R own k tx a s := by
  obtain ⟨-, -, -, a, -, -, -, -, -, hev⟩ := Cond.stringRef_spec hc h
  exact ⟨a, vk_R.of h hev⟩
theorem st_tb {args : Array Value} {s : State} {n : String} {f : Nat → Int32} {A : Nat → Prop} (hl : (Cond.laysStatic "PictureInlays" n "[I").before args s = true) (hini : (Cond.initialized "PictureInlays").before args s = true) (harr : (Cond.arrayOf (.static "PictureInlays" n "[I") .int).before args s = true) (hlen : (Cond.eq (.length (.static "PictureInlays" n "[I")) (.int 4)).before args s = true) (hel : ∀ j : Nat, j < 4 → (Cond.eq (.elem (.static "PictureInlays" n "[I") (.int (Int32.ofNat j))) (.int (f j))).before args s = true) (hA : ∀ a : Nat, a < s.heap.size → ¬ A a) : ∃ t : Nat, va_Z "PictureInlays" n "[I" (.ref t) A s s.heap ∧ va_T .int t 4 (fun j => .int (f j)) A s s.heap := by
  obtain ⟨t, ht, hT⟩ := va_Tof (f := fun j => .int (f j)) (A := A) (N := 4) (by decide) harr (va_eqt hlen) (fun j hj => va_eqt (hel j hj)) hA
  exact ⟨t, va_Zof hl hini ht hA, hT⟩
set_option maxRecDepth 100000 in
theorem st_Ex {s : State} {b : Nat} (hts : ∀ w ∈ lw_tbl, w.before #[Value.ref b] s = true) (hgv : (Jvm.Cond.and given_1 narrow_1).before #[Value.ref b] s = true) {cP : ClassId} (hcP : s.vm.findClass "PictureInlays" = some cP) : cw_Ex (fun q : Nat => s.heap.size ≤ q) s ∧ px_ExN s := by
  have hs := flat_of_before _ hgv
  have hA : ∀ a : Nat, a < s.heap.size → ¬ (fun q : Nat => s.heap.size ≤ q) a := fun a h => Nat.not_le.mpr h
  have hN : ∀ q ∈ pw_Nest, va_Nw (.fieldLinkNest q.1 q.2.1 "PictureInlays" q.2.2 "[I" "PictureInlays") s := List.forall_mem_cons.mpr ⟨va_Nw.of rfl (hts _ (List.mem_of_getElem? (i := 89) (by decide +kernel))), List.forall_mem_cons.mpr ⟨va_Nw.of rfl (hts _ (List.mem_of_getElem? (i := 91) (by decide +kernel))), List.forall_mem_cons.mpr ⟨va_Nw.of rfl (hts _ (List.mem_of_getElem? (i := 685) (by decide +kernel))), List.forall_mem_cons.mpr ⟨va_Nw.of rfl (hts _ (List.mem_of_getElem? (i := 686) (by decide +kernel))), List.forall_mem_cons.mpr ⟨va_Nw.of rfl (hts _ (List.mem_of_getElem? (i := 695) (by decide +kernel))), List.forall_mem_cons.mpr ⟨va_Nw.of rfl (hts _ (List.mem_of_getElem? (i := 697) (by decide +kernel))), fun _ h => absurd h List.not_mem_nil⟩⟩⟩⟩⟩⟩
  have hDc : ∀ y ∈ pw_Dec, va_Nw (.declares y) s := List.forall_mem_cons.mpr ⟨va_Nw.of rfl (hts _ (List.mem_of_getElem? (i := 560) (by decide +kernel))), List.forall_mem_cons.mpr ⟨va_Nw.of rfl (hts _ (List.mem_of_getElem? (i := 372) (by decide +kernel))), List.forall_mem_cons.mpr ⟨va_Nw.of rfl (hts _ (List.mem_of_getElem? (i := 374) (by decide +kernel))), List.forall_mem_cons.mpr ⟨va_Nw.of rfl (hts _ (List.mem_of_getElem? (i := 376) (by decide +kernel))), fun _ h => absurd h List.not_mem_nil⟩⟩⟩⟩
  have hLt : ∀ q ∈ pw_Lit, ∃ a, vk_R q.1 q.2.1 q.2.2 a s := List.forall_mem_cons.mpr ⟨st_lit (hts _ (List.mem_of_getElem? (i := 409) (by decide +kernel))) hcP, List.forall_mem_cons.mpr ⟨st_lit (hts _ (List.mem_of_getElem? (i := 451) (by decide +kernel))) hcP, List.forall_mem_cons.mpr ⟨st_lit (hts _ (List.mem_of_getElem? (i := 621) (by decide +kernel))) hcP, List.forall_mem_cons.mpr ⟨st_lit (hts _ (List.mem_of_getElem? (i := 799) (by decide +kernel))) hcP, fun _ h => absurd h List.not_mem_nil⟩⟩⟩⟩
  have hC0 : px_Ca (px_E 0) s := st_ca (hts _ (List.mem_of_getElem? (i := 614) (by decide +kernel)))
  have hC1 : px_Ca (px_E 1) s := st_ca (hts _ (List.mem_of_getElem? (i := 370) (by decide +kernel)))
  have hC2 : px_Ca (px_E 2) s := st_ca (hts _ (List.mem_of_getElem? (i := 444) (by decide +kernel)))
  have hC : ∀ k, k < 3 → px_Ca (px_E k) s := fun k hk => match k, hk with
    | 0, _ => hC0
    | 1, _ => hC1
    | 2, _ => hC2
    | n + 3, h => absurd h (by omega)
  obtain ⟨tSTEP_X, zSTEP_X, ySTEP_X⟩ := st_tb (n := "STEP_X") (f := tb_SX) (A := fun q : Nat => s.heap.size ≤ q) (hts _ (List.mem_of_getElem? (i := 90) (by decide +kernel))) (hts _ (List.mem_of_getElem? (i := 45) (by decide +kernel))) (hs (.arrayOf (.static "PictureInlays" "STEP_X" "[I") .int) (by decide +kernel)) (hs (.eq (.length (.static "PictureInlays" "STEP_X" "[I")) (.int 4)) (by decide +kernel)) (fun j hj => match j, hj with
    | 0, _ => hs (.eq (.elem (.static "PictureInlays" "STEP_X" "[I") (.int 0)) (.int 1)) (by decide +kernel)
    | 1, _ => hs (.eq (.elem (.static "PictureInlays" "STEP_X" "[I") (.int 1)) (.int 0)) (by decide +kernel)
    | 2, _ => hs (.eq (.elem (.static "PictureInlays" "STEP_X" "[I") (.int 2)) (.int (-1))) (by decide +kernel)
    | 3, _ => hs (.eq (.elem (.static "PictureInlays" "STEP_X" "[I") (.int 3)) (.int 0)) (by decide +kernel)
    | n + 4, h => absurd h (by omega)) hA
  obtain ⟨tSTEP_Y, zSTEP_Y, ySTEP_Y⟩ := st_tb (n := "STEP_Y") (f := tb_SY) (A := fun q : Nat => s.heap.size ≤ q) (hts _ (List.mem_of_getElem? (i := 92) (by decide +kernel))) (hts _ (List.mem_of_getElem? (i := 45) (by decide +kernel))) (hs (.arrayOf (.static "PictureInlays" "STEP_Y" "[I") .int) (by decide +kernel)) (hs (.eq (.length (.static "PictureInlays" "STEP_Y" "[I")) (.int 4)) (by decide +kernel)) (fun j hj => match j, hj with
    | 0, _ => hs (.eq (.elem (.static "PictureInlays" "STEP_Y" "[I") (.int 0)) (.int 0)) (by decide +kernel)
    | 1, _ => hs (.eq (.elem (.static "PictureInlays" "STEP_Y" "[I") (.int 1)) (.int 1)) (by decide +kernel)
    | 2, _ => hs (.eq (.elem (.static "PictureInlays" "STEP_Y" "[I") (.int 2)) (.int 0)) (by decide +kernel)
    | 3, _ => hs (.eq (.elem (.static "PictureInlays" "STEP_Y" "[I") (.int 3)) (.int (-1))) (by decide +kernel)
    | n + 4, h => absurd h (by omega)) hA
  obtain ⟨tAHEAD_X, zAHEAD_X, yAHEAD_X⟩ := st_tb (n := "AHEAD_X") (f := tb_AX) (A := fun q : Nat => s.heap.size ≤ q) (hts _ (List.mem_of_getElem? (i := 696) (by decide +kernel))) (hts _ (List.mem_of_getElem? (i := 45) (by decide +kernel))) (hs (.arrayOf (.static "PictureInlays" "AHEAD_X" "[I") .int) (by decide +kernel)) (hs (.eq (.length (.static "PictureInlays" "AHEAD_X" "[I")) (.int 4)) (by decide +kernel)) (fun j hj => match j, hj with
    | 0, _ => hs (.eq (.elem (.static "PictureInlays" "AHEAD_X" "[I") (.int 0)) (.int 0)) (by decide +kernel)
    | 1, _ => hs (.eq (.elem (.static "PictureInlays" "AHEAD_X" "[I") (.int 1)) (.int (-1))) (by decide +kernel)
    | 2, _ => hs (.eq (.elem (.static "PictureInlays" "AHEAD_X" "[I") (.int 2)) (.int (-1))) (by decide +kernel)
    | 3, _ => hs (.eq (.elem (.static "PictureInlays" "AHEAD_X" "[I") (.int 3)) (.int 0)) (by decide +kernel)
    | n + 4, h => absurd h (by omega)) hA
  obtain ⟨tAHEAD_Y, zAHEAD_Y, yAHEAD_Y⟩ := st_tb (n := "AHEAD_Y") (f := tb_AY) (A := fun q : Nat => s.heap.size ≤ q) (hts _ (List.mem_of_getElem? (i := 698) (by decide +kernel))) (hts _ (List.mem_of_getElem? (i := 45) (by decide +kernel))) (hs (.arrayOf (.static "PictureInlays" "AHEAD_Y" "[I") .int) (by decide +kernel)) (hs (.eq (.length (.static "PictureInlays" "AHEAD_Y" "[I")) (.int 4)) (by decide +kernel)) (fun j hj => match j, hj with
    | 0, _ => hs (.eq (.elem (.static "PictureInlays" "AHEAD_Y" "[I") (.int 0)) (.int 0)) (by decide +kernel)
    | 1, _ => hs (.eq (.elem (.static "PictureInlays" "AHEAD_Y" "[I") (.int 1)) (.int 0)) (by decide +kernel)
    | 2, _ => hs (.eq (.elem (.static "PictureInlays" "AHEAD_Y" "[I") (.int 2)) (.int (-1))) (by decide +kernel)
    | 3, _ => hs (.eq (.elem (.static "PictureInlays" "AHEAD_Y" "[I") (.int 3)) (.int (-1))) (by decide +kernel)
    | n + 4, h => absurd h (by omega)) hA
  have lU : (Cond.laysStatic "java/lang/Throwable" "UNASSIGNED_STACK" "[Ljava/lang/StackTraceElement;").before #[Value.ref b] s = true := (hts _ (List.mem_of_getElem? (i := 395) (by decide +kernel)))
  have rU := hs (.isRef (.static "java/lang/Throwable" "UNASSIGNED_STACK" "[Ljava/lang/StackTraceElement;")) (by decide +kernel)
  have lS : (Cond.laysStatic "java/lang/Throwable" "SUPPRESSED_SENTINEL" "Ljava/util/List;").before #[Value.ref b] s = true := (hts _ (List.mem_of_getElem? (i := 397) (by decide +kernel)))
  have rS := hs (.isRef (.static "java/lang/Throwable" "SUPPRESSED_SENTINEL" "Ljava/util/List;")) (by decide +kernel)
  have iT : (Cond.initialized "java/lang/Throwable").before #[Value.ref b] s = true := (hts _ (List.mem_of_getElem? (i := 58) (by decide +kernel)))
  have n01 := st_nc (hs (.not (.castable "java/lang/IllegalStateException" "java/lang/IndexOutOfBoundsException")) (by decide +kernel))
  have n02 := st_nc (hs (.not (.castable "java/lang/IllegalStateException" "java/lang/IllegalArgumentException")) (by decide +kernel))
  have n10 := st_nc (hs (.not (.castable "java/lang/IndexOutOfBoundsException" "java/lang/IllegalStateException")) (by decide +kernel))
  have n12 := st_nc (hs (.not (.castable "java/lang/IndexOutOfBoundsException" "java/lang/IllegalArgumentException")) (by decide +kernel))
  have n20 := st_nc (hs (.not (.castable "java/lang/IllegalArgumentException" "java/lang/IllegalStateException")) (by decide +kernel))
  have n21 := st_nc (hs (.not (.castable "java/lang/IllegalArgumentException" "java/lang/IndexOutOfBoundsException")) (by decide +kernel))
  refine ⟨⟨⟨⟨hN, hDc⟩, ⟨hLt, hC⟩, ⟨px_LS.of lU hA, px_LS.of lS hA⟩, va_Zqof lU iT rU hA, va_Zqof lS iT rS hA⟩, tSTEP_X, tSTEP_Y, tAHEAD_X, tAHEAD_Y, zSTEP_X, zSTEP_Y, zAHEAD_X, zAHEAD_Y, ySTEP_X, ySTEP_Y, yAHEAD_X, yAHEAD_Y⟩, ?_⟩
  intro i j hi hj hij
  rcases (show i = 0 ∨ i = 1 ∨ i = 2 by omega) with rfl | rfl | rfl <;> rcases (show j = 0 ∨ j = 1 ∨ j = 2 by omega) with rfl | rfl | rfl
  · exact absurd rfl hij
  · exact n01
  · exact n02
  · exact n10
  · exact absurd rfl hij
  · exact n12
  · exact n20
  · exact n21
  · exact absurd rfl hij
