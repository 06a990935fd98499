/-! From the skeleton: the law's end, what holds at its entry. -/
def R_law : String := "PictureInlaysLaw"
def lw_P (b : Addr) (xs : List Int32) (args : Array Value) (s : State) : Prop := args = #[.ref b] ∧ s.IntsAt b xs ∧ xs.length ≤ 3075 ∧ (Jvm.Cond.and given_1 narrow_1).before args s = true
def lw_Q (_ : Array Value) (s : State) (o : Outcome) (t : State) : Prop := o = .returned (some (.int 1)) ∧ Framed s o t [] 601024 7293000
def lw_Z (below : List Frame) (a : Array Value) (s : State) : State → Prop := fun t => ∃ o, t.status = .running ∧ Ended t below o ∧ lw_Q a s o t
/-- the law's own end, with 1 on the stack, nothing written that was there before, its room as the claim has it -/
theorem lw_ret {p : Program} {l : Launch} {e : Env} {s : State} {m : MethodId} {below : List Frame} {meth : Method} {c : Code} {b : Nat} (hx : p.tables.exec = Jvm.exec) (hb : c.code = code) (hr : meth.sig.returnType = ret) (hlocks : meth.locks = false) {pc : Nat} {H : Heap} {ls : Array Slot} (hdg : decode code pc = .ok (.ireturn, 1)) : W p l e room_1 s m #[Value.ref b] below meth c H [] 601024 7293000 (lw_Z below #[Value.ref b] s) (F0 m pc ls [.int 1]) := by
  intro T hT X
  obtain ⟨fs, hret, hrun, hended, hW, hframe⟩ := X.leave (v := some (.int 1)) (hlocks := hlocks) (fun h => by rw [hr] at h; cases h)
  have hmeth' : T.vm.method? m = some meth := X.method'
  refine ⟨T.setFrames fs, ?_, .returned (some (.int 1)), hrun, hended, rfl, ⟨_, rfl⟩, hW, hframe⟩
  jvm_step X.here [X.here.top, hx, hb, hdg, hmeth', hr, ret, narrow_b1]
  (try refine ⟨rfl, ?_⟩); (try refine ⟨rfl, ?_⟩)
  first | (intro acts; rw [hret _ acts rfl rfl rfl]) | rw [hret _ _ rfl rfl rfl]
  exact Steps.refl _
/-- what holds at the law's entry: the machine, the code, the tables' words (any of lw_tbl by 'hts w (by decide +kernel)'), the script of L ints xs at the cell b, what the Statement gives of the start (any of its parts by flat_of_before) -/
def lw_At (p : Program) (s : State) (m : MethodId) (meth : Method) (c : Code) (b L : Nat) (xs : Nat → Int32) : Prop :=
  p.tables.exec = Jvm.exec ∧ c.code = code ∧ meth.sig.returnType = ret ∧ c.maxLocals = 7 ∧ s.vm.findClass R_law = some m.cls ∧ (∀ w ∈ lw_tbl, w.before #[Value.ref b] s = true) ∧ va_X b L xs s s.heap ∧ b < s.heap.size ∧ meth.locks = false ∧ (Jvm.Cond.and given_1 narrow_1).before #[Value.ref b] s = true
/-! OWN ROWS: the law's calls, what they keep; the law's standing facts. -/
theorem lw_h2 {s : State} {b : Nat} (hts : ∀ w ∈ lw_tbl, w.before #[Value.ref b] s = true) : ∀ w ∈ (Cond.initialized "PictureInlays") :: pw_T, w.before #[Value.ref b] s = true :=
  List.forall_mem_cons.mpr ⟨hts _ (List.mem_of_getElem? (i := 45) (by decide +kernel)), fun w h => hts w (List.mem_filter.mp h).1⟩
theorem lw_adr {n : Nat} {a : Nat → Nat} {ws : va_W} (he : ws.map (fun q => q.1) = (List.range n).map a) {k : Nat} {q : Nat × va_E} (hk : ws[k]? = some q) : ∃ j, j < n ∧ q.1 = a j := by
  have h1 : (ws.map (fun q => q.1))[k]? = some q.1 := by rw [List.getElem?_map, hk]; rfl
  rw [he, List.getElem?_map] at h1
  by_cases hkn : k < n
  · rw [List.getElem?_range hkn] at h1
    exact ⟨k, hkn, (Option.some.inj h1).symm⟩
  · rw [List.getElem?_eq_none (by rw [List.length_range]; omega)] at h1
    cases h1
theorem lw_keep {D : va_G} {cl : List vw_C} {ws : va_W} {H H1 : Heap} {A1 : Nat → Prop} (h : va_P D cl ws H) (hA : ∀ (k : Nat) (q : Nat × va_E), ws[k]? = some q → q.1 < H.size → ¬ A1 q.1) (hk : ∀ q : Nat, q < H.size → ¬ A1 q → H1[q]? = H[q]?) : va_P D cl ws H1 :=
  h.kept (fun k q hq => hk q.1 ((h k q hq).lt) (hA k q hq ((h k q hq).lt)))
section
variable {p : Program} {l : Launch} {e : Env} {R : Room} {s : State} {m : MethodId} {args : Array Value} {below : List Frame} {meth : Method} {c : Code} {H : Heap} {locs : List Loc} {cells slots : Nat} {Q : State → Prop}
variable {pc : Nat} {ls : Array Slot} {rest st0 : List Value} {aa : Array Value} {D : va_G} {A : Nat → Prop}
theorem lw_help {a : Nat → Nat} {cA cZ cL : ClassId} {G : pG} {o : Nat} {Z : Int32 → pS → (Nat → Int64) → Prop} (hr : px_Run p l e R s m args below meth c H locs cells slots 1 6 1 6 (F0 m pc ls st0) rest (hx_Q Z D a cA cZ cL G o (hx_F a o H.size) aa) (hx_F a o H.size)) (hS : va_S A s.heap H locs) (hFA : ∀ q, hx_F a o H.size q → A q)
    (kk : ∀ (k : Int32) (u : pS) (f : Nat → Int64) (H1 : Heap) (locs1 : List Loc), Z k u f → va_P D vwCl (cw a cA cZ G u) H1 → va_P D vwCl (hx_o o cL f) H1 → (∀ q : Nat, q < H.size → ¬ hx_F a o H.size q → H1[q]? = H[q]?) → va_S A s.heap H1 locs1 → W p l e R s m args below meth c H1 locs1 (cells + 1) (slots + 6) Q (F0 m (pc + 3) ls (.int k :: rest))) : W p l e R s m args below meth c H locs cells slots Q (F0 m pc ls st0) := by
  intro T hT0 Xs
  obtain ⟨o1, st₀, t, L1, h0, ⟨⟨k, u, f, e1, e2, e3⟩, hf1, hf2⟩, hL1, hcase⟩ := hr T hT0 Xs
  rw [h0] at hf1 hf2
  have hS1 : va_S A s.heap t.heap (locs ++ L1) := px_S hS hf1 hf2 hFA hL1
  rcases hcase with ⟨v, T', ho, h1, h2, X', st⟩ | ⟨x, T', ho, h1, h2, X', st⟩
  · rw [ho] at e1
    cases e1
    obtain ⟨t', a1, a2⟩ := kk k u f t.heap (locs ++ L1) e2 e3.1 e3.2.1 hf2 hS1 T' h1 X'
    exact ⟨t', st _ a1, a2⟩
  · rw [ho] at e1; cases e1
theorem lw_mcall {n : Nat} {a : Nat → Nat} {wd : pS → va_W} {tys : List (ClassId × FieldType)} {Qm : Int32 → pS → Prop} (hr : va_Run p l e R s m args below meth c H locs cells slots 0 0 (F0 m pc ls st0) rest (va_Qi (fun (r : Int32) (u : pS) => Qm r u) (pw_B D wd tys) (pw_F n a H.size) aa) (pw_F n a H.size)) (hS : va_S A s.heap H locs) (hFA : ∀ q, pw_F n a H.size q → A q)
    (kk : ∀ (r : Int32) (u : pS) (H1 : Heap) (locs1 : List Loc), va_P D vwCl (wd u) H1 → (∀ q : Nat, q < H.size → ¬ pw_F n a H.size q → H1[q]? = H[q]?) → va_S A s.heap H1 locs1 → Qm r u → W p l e R s m args below meth c H1 locs1 cells slots Q (F0 m (pc + 3) ls (.int r :: rest))) : W p l e R s m args below meth c H locs cells slots Q (F0 m pc ls st0) :=
  va_calli hr hS (fun q _ h => hFA q h) hFA (fun r u t H1 locs1 ht hvm hw hB hz1 hk1 hS1 => kk r u H1 locs1 (by rw [← ht]; exact hB.1) hk1 hS1 hw)
end
/-- what stands all through the law -/
def lw_C (p : Program) (l : Launch) (s : State) (m : MethodId) (meth : Method) (c : Code) (b L : Nat) (xs : Nat → Int32) (D : va_G) (a a2 : Nat → Nat) (o : Nat) (cA cZ cL : ClassId) (G Gm : pG) (w h K : Nat) : Prop :=
  lw_At p s m meth c b L xs ∧ px_L l ∧ va_K D vwCl (hx_T cA cZ cL) s ∧ (cw_Ex (fun q : Nat => s.heap.size ≤ q) s ∧ px_ExN s) ∧ (GI w h K G ∧ MI w h K Gm) ∧ (pw_I 40 a ∧ pw_I 15 a2) ∧ ((∀ k, k < 40 → o ≠ a k) ∧ (∀ k, k < 15 → o ≠ a2 k) ∧ (∀ j k, j < 40 → k < 15 → a j ≠ a2 k)) ∧ (∀ k, k < 40 → s.heap.size ≤ a k) ∧ (∀ k, k < 15 → s.heap.size ≤ a2 k) ∧ s.heap.size ≤ o
/-- what stands at each turn of the law's loop -/
def lw_S (D : va_G) (a a2 : Nat → Nat) (o : Nat) (cA cZ cL : ClassId) (G Gm : pG) (w h K : Nat) (s : State) (H : Heap) (locs : List Loc) : Prop :=
  ∃ (u v : pS) (f : Nat → Int64), va_P D vwCl (cw a cA cZ G u) H ∧ va_P D vwCl (rw a2 cA cZ Gm v) H ∧ va_P D vwCl (hx_o o cL f) H ∧ va_S (fun q : Nat => s.heap.size ≤ q) s.heap H locs ∧ Rel w h K u v
section
variable {D : va_G} {a a2 : Nat → Nat} {o : Nat} {cA cZ cL : ClassId} {G Gm : pG} {H H1 : Heap}
/-- a helper keeps the reference's cells -/
theorem lw_kr {v : pS} (hP : va_P D vwCl (rw a2 cA cZ Gm v) H) (h1 : ∀ k, k < 15 → o ≠ a2 k) (h2 : ∀ j k, j < 40 → k < 15 → a j ≠ a2 k) (hk : ∀ q : Nat, q < H.size → ¬ hx_F a o H.size q → H1[q]? = H[q]?) : va_P D vwCl (rw a2 cA cZ Gm v) H1 := by
  refine lw_keep hP (fun k q hq hlt hF => ?_) hk
  obtain ⟨j, hj, e⟩ := lw_adr (n := 15) (a := a2) rfl hq
  rcases hF with (⟨i, hi, e2⟩ | hge) | e2
  · exact h2 i j hi hj (by rw [← e2, e])
  · omega
  · exact h1 j hj (by rw [← e2, e])
/-- the reference keeps the class's cells and the row for the answer -/
theorem lw_kc {u : pS} (hP : va_P D vwCl (cw a cA cZ G u) H) (h2 : ∀ j k, j < 40 → k < 15 → a j ≠ a2 k) (hk : ∀ q : Nat, q < H.size → ¬ pw_F 15 a2 H.size q → H1[q]? = H[q]?) : va_P D vwCl (cw a cA cZ G u) H1 := by
  refine lw_keep hP (fun k q hq hlt hF => ?_) hk
  obtain ⟨j, hj, e⟩ := lw_adr (n := 40) (a := a) rfl hq
  rcases hF with ⟨i, hi, e2⟩ | hge
  · exact h2 j i hj hi (by rw [← e2, e])
  · omega
theorem lw_ko {f : Nat → Int64} (hP : va_P D vwCl (hx_o o cL f) H) (h1 : ∀ k, k < 15 → o ≠ a2 k) (hk : ∀ q : Nat, q < H.size → ¬ pw_F 15 a2 H.size q → H1[q]? = H[q]?) : va_P D vwCl (hx_o o cL f) H1 := by
  refine lw_keep hP (fun k q hq hlt hF => ?_) hk
  have e : q.1 = o := by
    have h2 : q ∈ hx_o o cL f := List.mem_of_getElem? hq
    rw [List.mem_singleton.mp h2]
  rcases hF with ⟨i, hi, e2⟩ | hge
  · exact h1 i hi (by rw [← e2, e])
  · omega
end
