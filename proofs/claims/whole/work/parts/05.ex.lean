/-! What holds of the start beside the good words: links in the nest, 'declares', castable classes, String constants, statics. px_Ex A U; it is handed on at every call. -/
def px_up : List String := ["java/lang/RuntimeException", "java/lang/Exception"]
def tb_of (a b c d : Int32) : Nat → Int32
  | 0 => a
  | 1 => b
  | 2 => c
  | _ => d
def tb_SX : Nat → Int32 := tb_of 1 0 (-1) 0
def tb_SY : Nat → Int32 := tb_of 0 1 0 (-1)
def tb_AX : Nat → Int32 := tb_of 0 (-1) (-1) 0
def tb_AY : Nat → Int32 := tb_of 0 0 (-1) (-1)
def pw_Nest : List (String × Nat × String) := [("PictureInlays$Grid", 31, "STEP_X"), ("PictureInlays$Grid", 34, "STEP_Y"), ("PictureInlays$Walk", 61, "STEP_X"), ("PictureInlays$Walk", 64, "STEP_Y"), ("PictureInlays$Walk", 75, "AHEAD_X"), ("PictureInlays$Walk", 78, "AHEAD_Y")]
def pw_Lit : List (String × Nat × String) := [("PictureInlays", 234, "there is no such one"), ("PictureInlays", 239, "a number is not as said"), ("PictureInlays", 219, "not parted since another colour was told"), ("PictureInlays", 224, "nothing was nested since it was parted")]
def pw_Dec : List MethodName := [⟨"PictureInlays$Ranking", "compare", "(II)I"⟩, ⟨"java/lang/RuntimeException", "<init>", "(Ljava/lang/String;)V"⟩, ⟨"java/lang/Exception", "<init>", "(Ljava/lang/String;)V"⟩, ⟨"java/lang/Throwable", "<init>", "(Ljava/lang/String;)V"⟩]
def px_Ca (X : String) (U : State) : Prop := ∃ c, U.vm.findClass X = some c ∧ U.vm.assignable c c = true
def px_ExA (U : State) : Prop := (∀ q ∈ pw_Nest, va_Nw (.fieldLinkNest q.1 q.2.1 "PictureInlays" q.2.2 "[I" "PictureInlays") U) ∧ ∀ y ∈ pw_Dec, va_Nw (.declares y) U
def px_ExB (U : State) : Prop := (∀ q ∈ pw_Lit, ∃ a, vk_R q.1 q.2.1 q.2.2 a U) ∧ ∀ k, k < 3 → px_Ca (px_E k) U
/-- 'laysStatic' of a static of a cell that no method writes -/
def px_LS (C n d : String) (A : Nat → Prop) (U : State) (H : Heap) : Prop := ∃ (c : ClassId) (k : Class) (i : Nat) (f : Field) (a : Nat) (cell : Cell), U.vm.findClass C = some c ∧ U.fieldFound? C n d = some (c, k, i, f) ∧ f.isStatic = true ∧ k.statics = some a ∧ H[a]? = some cell ∧ cell.vm.isStatics = true ∧ cell.cls = c ∧ f.slot < cell.slots.size ∧ k.staticTypes[f.slot]? = some f.type ∧ ¬ A a
theorem px_LS.of {C n d : String} {A : Nat → Prop} {args : Array Value} {s : State} (h : (Cond.laysStatic C n d).before args s = true) (hA : ∀ a : Nat, a < s.heap.size → ¬ A a) : px_LS C n d A s s.heap := by
  obtain ⟨c, k, i, f, a, cell, h1, h2, h3, h4, h5, h6, h7, h8, h9⟩ := Cond.laysStatic_spec h
  exact ⟨c, k, i, f, a, cell, h1, h2, h3, h4, h5, h6, h7, h8, h9, hA a (Array.getElem?_eq_some_iff.mp h5).1⟩
theorem px_LS.go {C n d : String} {A B : Nat → Prop} {u U : State} {H H1 : Heap} (hvm : u.vm.Alike U.vm) (hq : ∀ a : Nat, a < H.size → ¬ A a → H1[a]? = H[a]?) (hAB : ∀ q, B q → A q) (h : px_LS C n d A u H) : px_LS C n d B U H1 := by
  obtain ⟨c, k, i, f, a, cell, h1, h2, h3, h4, h5, h6, h7, h8, h9, h10⟩ := h
  obtain ⟨k', hi', he⟩ := State.fieldFound?_setVm hvm h2
  exact ⟨c, k', i, f, a, cell, by rw [hvm.findClass]; exact h1, hi', h3, by rw [he]; exact h4, by rw [hq a (Array.getElem?_eq_some_iff.mp h5).1 h10]; exact h5, h6, h7, h8, by rw [he]; exact h9, fun q => h10 (hAB a q)⟩
theorem px_LS.word {C n d : String} {A : Nat → Prop} {args : Array Value} {U : State} (h : px_LS C n d A U U.heap) : (Cond.laysStatic C n d).before args U = true := by
  obtain ⟨c, k, i, f, a, cell, h1, h2, h3, h4, h5, h6, h7, h8, h9, -⟩ := h
  simp [Cond.before, Cond.holds, Cond.value, h1, h2, h3, h4, h5, h6, h7, h8, h9]
def px_ExC (A : Nat → Prop) (U : State) : Prop := (px_LS Bundle.tN "UNASSIGNED_STACK" Bundle.steD A U U.heap ∧ px_LS Bundle.tN "SUPPRESSED_SENTINEL" Bundle.listD A U U.heap) ∧ va_Zq Bundle.tN "UNASSIGNED_STACK" Bundle.steD A U U.heap ∧ va_Zq Bundle.tN "SUPPRESSED_SENTINEL" Bundle.listD A U U.heap
def px_ExD (A : Nat → Prop) (U : State) : Prop := ∃ t1 t2 t3 t4 : Nat, va_Z "PictureInlays" "STEP_X" "[I" (.ref t1) A U U.heap ∧ va_Z "PictureInlays" "STEP_Y" "[I" (.ref t2) A U U.heap ∧ va_Z "PictureInlays" "AHEAD_X" "[I" (.ref t3) A U U.heap ∧ va_Z "PictureInlays" "AHEAD_Y" "[I" (.ref t4) A U U.heap ∧
  va_T .int t1 4 (fun j => .int (tb_SX j)) A U U.heap ∧ va_T .int t2 4 (fun j => .int (tb_SY j)) A U U.heap ∧ va_T .int t3 4 (fun j => .int (tb_AX j)) A U U.heap ∧ va_T .int t4 4 (fun j => .int (tb_AY j)) A U U.heap
def cw_Ex (A : Nat → Prop) (U : State) : Prop := (px_ExA U ∧ px_ExB U ∧ px_ExC A U) ∧ px_ExD A U
theorem px_Ca.moved {X : String} {u U : State} (hvm : u.vm.Alike U.vm) (h : px_Ca X u) : px_Ca X U := by
  obtain ⟨c, h1, h2⟩ := h
  exact ⟨c, by rw [hvm.findClass]; exact h1, by rw [hvm.assignable]; exact h2⟩
theorem px_ExA.same {u U : State} (hv : u.vm = U.vm) (h : px_ExA u) : px_ExA U := ⟨fun q hq => va_tabs rfl hv (h.1 q hq), fun y hy => va_tabs rfl hv (h.2 y hy)⟩
theorem px_ExA.warm {s U : State} (hW : s.WarmedH U.vm) (h : px_ExA s) : px_ExA U := ⟨fun q hq => va_Nw.warmF hW (h.1 q hq), fun y hy => va_Nw.warmD hW (h.2 y hy)⟩
theorem px_ExB.same {u U : State} (hv : u.vm = U.vm) (h : px_ExB u) : px_ExB U := ⟨fun q hq => by obtain ⟨a, ha⟩ := h.1 q hq; exact ⟨a, vk_R.same hv.symm ha⟩, fun k hk => px_Ca.moved (by rw [hv]; exact Vm.Alike.refl _) (h.2 k hk)⟩
theorem px_ExB.warm {s U : State} (hW : s.WarmedH U.vm) (h : px_ExB s) : px_ExB U := ⟨fun q hq => by obtain ⟨a, ha⟩ := h.1 q hq; exact ⟨a, vk_R.warm hW ha⟩, fun k hk => px_Ca.moved hW.alike (h.2 k hk)⟩
theorem cw_Ex.same {A : Nat → Prop} {u U : State} (hv : u.vm = U.vm) (hh : u.heap = U.heap) (h : cw_Ex A u) : cw_Ex A U := by
  obtain ⟨⟨hA, hB, hC⟩, t1, t2, t3, t4, z1, z2, z3, z4, y1, y2, y3, y4⟩ := h
  have hvm : u.vm.Alike U.vm := by rw [hv]; exact Vm.Alike.refl _
  refine ⟨⟨hA.same hv, hB.same hv, ?_⟩, t1, t2, t3, t4, ?_⟩
  · unfold px_ExC at hC ⊢
    rw [← hh]
    exact ⟨⟨px_LS.go hvm (fun _ _ _ => rfl) (fun _ h => h) hC.1.1, px_LS.go hvm (fun _ _ _ => rfl) (fun _ h => h) hC.1.2⟩, va_Zq.moved hvm hC.2.1, va_Zq.moved hvm hC.2.2⟩
  · rw [← hh]
    exact ⟨va_Z.moved hvm z1, va_Z.moved hvm z2, va_Z.moved hvm z3, va_Z.moved hvm z4, va_T.moved hvm y1, va_T.moved hvm y2, va_T.moved hvm y3, va_T.moved hvm y4⟩
theorem cw_Ex_call {A A1 : Nat → Prop} {s U : State} {H : Heap} {locs : List Loc} (h : cw_Ex A s) (hS : va_S A s.heap H locs) (hA : ∀ q, A1 q → A q) (hU : U.heap = H) (hW : s.WarmedH U.vm) : cw_Ex A1 U := by
  obtain ⟨⟨hA0, hB, hC⟩, t1, t2, t3, t4, z1, z2, z3, z4, y1, y2, y3, y4⟩ := h
  have hvm := hW.alike
  have hk : ∀ a : Nat, a < s.heap.size → ¬ A a → H[a]? = s.heap[a]? := fun a h1 h2 => hS.2.1 a h1 h2
  refine ⟨⟨hA0.warm hW, hB.warm hW, ?_⟩, t1, t2, t3, t4, ?_⟩
  · unfold px_ExC at hC ⊢
    rw [hU]
    exact ⟨⟨px_LS.go hvm hk hA hC.1.1, px_LS.go hvm hk hA hC.1.2⟩, va_Zq.narrow (va_Zq.moved hvm (va_Zq.kept hC.2.1 hk)) hA, va_Zq.narrow (va_Zq.moved hvm (va_Zq.kept hC.2.2 hk)) hA⟩
  · rw [hU]
    exact ⟨va_Z.narrow (va_Z.moved hvm (va_Z.kept z1 hk)) hA, va_Z.narrow (va_Z.moved hvm (va_Z.kept z2 hk)) hA, va_Z.narrow (va_Z.moved hvm (va_Z.kept z3 hk)) hA, va_Z.narrow (va_Z.moved hvm (va_Z.kept z4 hk)) hA,
      va_T.narrow (va_T.moved hvm (va_T.kept y1 hk)) hA, va_T.narrow (va_T.moved hvm (va_T.kept y2 hk)) hA, va_T.narrow (va_T.moved hvm (va_T.kept y3 hk)) hA, va_T.narrow (va_T.moved hvm (va_T.kept y4 hk)) hA⟩
theorem cw_blindX {av : List Value} {D : va_G} {wd : pS → va_W} {tys : List (ClassId × FieldType)} {sz : Nat} {u : pS} {A : Nat → Prop} : FrameBlind (va_Pc av (fun U => pw_pre D wd tys sz u U ∧ cw_Ex A U)) := by
  intro a U g mk q
  obtain ⟨q0, ⟨q1, qP, qK⟩, qE⟩ := q
  exact ⟨q0, ⟨q1, qP, va_K.moved (u := U) (U := U.calling g mk a) (Vm.Alike.refl U.vm) qK⟩, cw_Ex.same (u := U) (U := U.calling g mk a) rfl rfl qE⟩
theorem px_isRef {C n d : String} {A : Nat → Prop} {U : State} {args : Array Value} (h : va_Zq C n d A U U.heap) : (Cond.isRef (.static C n d)).before args U = true := by
  rcases h with h | ⟨t, h⟩ <;>
  · obtain ⟨cf, kf, fi, f, a, cell, h1, h2, h3, h4, h5, h6, h7, -⟩ := h
    have he : (Term.static C n d).eval args U none [] U = cell.slots[f.slot]? := by simp [Term.eval, State.fieldNamed?, h1, h2, h4, h5, h6]
    simp [Cond.before, Cond.holds, Cond.value, he, h7]
theorem px_castable {X : String} {U : State} {args : Array Value} (h : px_Ca X U) : (Cond.castable X X).before args U = true := by
  obtain ⟨c, h1, h2⟩ := h
  simp [Cond.before, Cond.holds, Cond.value, h1, h2]
def pw_LSw : List Cond := [.laysStatic Bundle.tN "UNASSIGNED_STACK" Bundle.steD, .laysStatic Bundle.tN "SUPPRESSED_SENTINEL" Bundle.listD]
def px_base (k : Nat) : List Cond := Bundle.throwableAtoms ++ Bundle.throwableSAtoms ++ Bundle.chainSAtoms (px_E k) px_up ++
  [.instantiable (px_E k) 6, .selects (px_E k) Bundle.tFill0 Bundle.tFill0, .selects (px_E k) Bundle.tFill Bundle.tFill,
   .lays (px_E k) Bundle.tN "cause" "Ljava/lang/Throwable;", .lays (px_E k) Bundle.tN "stackTrace" Bundle.steD, .lays (px_E k) Bundle.tN "suppressedExceptions" Bundle.listD, .lays (px_E k) Bundle.tN "detailMessage" "Ljava/lang/String;",
   .fieldLink Bundle.tN 198 Bundle.tN "backtrace" "Ljava/lang/Object;", .lays Bundle.tN Bundle.tN "backtrace" "Ljava/lang/Object;", .lays (px_E k) Bundle.tN "backtrace" "Ljava/lang/Object;"]
theorem px_base_0 : ∀ w ∈ px_base 0, (w ∈ lw_tbl ∧ goodWord w = true) ∨ w ∈ pw_Dec.map Cond.declares ∨ w ∈ pw_LSw := by decide +kernel
theorem px_base_1 : ∀ w ∈ px_base 1, (w ∈ lw_tbl ∧ goodWord w = true) ∨ w ∈ pw_Dec.map Cond.declares ∨ w ∈ pw_LSw := by decide +kernel
theorem px_base_2 : ∀ w ∈ px_base 2, (w ∈ lw_tbl ∧ goodWord w = true) ∨ w ∈ pw_Dec.map Cond.declares ∨ w ∈ pw_LSw := by decide +kernel
theorem px_base_ok {k : Nat} (hk : k < 3) : ∀ w ∈ px_base k, w ∈ pw_T ∨ w ∈ pw_Dec.map Cond.declares ∨ w ∈ pw_LSw := by
  rcases (show k = 0 ∨ k = 1 ∨ k = 2 by omega) with rfl | rfl | rfl
  · exact fun w h => (px_base_0 w h).imp List.mem_filter.mpr id
  · exact fun w h => (px_base_1 w h).imp List.mem_filter.mpr id
  · exact fun w h => (px_base_2 w h).imp List.mem_filter.mpr id
theorem px_own {c1 : Cond} {own : String} {args : Array Value} {s : State} {A : Nat → Prop} {k ic : Nat} (hk : k < 3) (kl : Cond.methodLink own ic (Bundle.initS (px_E k)) ∈ pw_T) (hts : ∀ w ∈ c1 :: pw_T, w.before args s = true) (EX : px_ExA s ∧ px_ExB s ∧ px_ExC A s) : ∀ w ∈ Bundle.ownAtoms own ic (px_E k) px_up, w.before args s = true := by
  obtain ⟨hA, hB, hC⟩ := EX
  have hb : ∀ w ∈ px_base k, w.before args s = true := by
    intro w h
    rcases px_base_ok hk w h with h1 | h1 | h1
    · exact hts w (List.mem_cons_of_mem _ h1)
    · obtain ⟨y, hy, rfl⟩ := List.mem_map.mp h1
      exact va_Nw.use rfl (hA.2 y hy)
    · rcases List.mem_cons.mp h1 with rfl | h2
      · exact hC.1.1.word
      · rcases List.mem_cons.mp h2 with rfl | h3
        · exact hC.1.2.word
        · cases h3
  have b1 : ∀ w ∈ Bundle.throwableAtoms ++ Bundle.throwableSAtoms ++ Bundle.chainSAtoms (px_E k) px_up, w.before args s = true := fun w h => hb w (List.mem_append_left _ h)
  have b2 := fun (w : Cond) h => hb w (List.mem_append_right _ h)
  refine List.forall_mem_append.mpr ⟨b1, ?_⟩
  refine List.forall_mem_cons.mpr ⟨hts _ (List.mem_cons_of_mem _ kl), ?_⟩
  refine List.forall_mem_cons.mpr ⟨b2 _ (by simp), ?_⟩
  refine List.forall_mem_cons.mpr ⟨px_castable (hB.2 k hk), ?_⟩
  refine List.forall_mem_cons.mpr ⟨b2 _ (by simp), ?_⟩
  refine List.forall_mem_cons.mpr ⟨b2 _ (by simp), ?_⟩
  refine List.forall_mem_cons.mpr ⟨b2 _ (by simp), ?_⟩
  refine List.forall_mem_cons.mpr ⟨b2 _ (by simp), ?_⟩
  refine List.forall_mem_cons.mpr ⟨b2 _ (by simp), ?_⟩
  refine List.forall_mem_cons.mpr ⟨b2 _ (by simp), ?_⟩
  refine List.forall_mem_cons.mpr ⟨px_isRef hC.2.1, ?_⟩
  refine List.forall_mem_cons.mpr ⟨px_isRef hC.2.2, ?_⟩
  refine List.forall_mem_cons.mpr ⟨b2 _ (by simp), ?_⟩
  refine List.forall_mem_cons.mpr ⟨b2 _ (by simp), ?_⟩
  refine List.forall_mem_cons.mpr ⟨b2 _ (by simp), ?_⟩
  exact fun _ h => absurd h List.not_mem_nil
