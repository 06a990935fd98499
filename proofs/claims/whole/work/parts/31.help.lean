/-! OWN ROWS: the law's helpers: a call that may throw, with a catch for each kind. -/
def px_ExN (U : State) : Prop := ∀ i j, i < 3 → j < 3 → i ≠ j → ∃ ci cj, U.vm.findClass (px_E i) = some ci ∧ U.vm.findClass (px_E j) = some cj ∧ U.vm.assignable ci cj = false
theorem px_ExN.moved {u U : State} (hvm : u.vm.Alike U.vm) (h : px_ExN u) : px_ExN U := by
  intro i j hi hj hij
  obtain ⟨ci, cj, h1, h2, h3⟩ := h i j hi hj hij
  exact ⟨ci, cj, by rw [hvm.findClass]; exact h1, by rw [hvm.findClass]; exact h2, by rw [hvm.assignable]; exact h3⟩
/-- which place the list of catches sends a kind to -/
def px_lk : List (Nat × Nat × Nat) → Nat → Nat
  | [], _ => 0
  | q :: L, k => if q.2.2 = k then q.1 else px_lk L k
def px_row (h : ExceptionTableEntry) : Nat × Nat × Nat × Nat := (h.startPc, h.endPc, h.handlerPc, h.catchType)
theorem px_cat {s : State} {m : MethodId} {own : String} {args : Array Value} {pl : Platform} (hpl : pl.magicAccessors = ({} : Platform).magicAccessors) (hown : s.vm.findClass own = some m.cls) (hN : px_ExN s) (hC : ∀ k, k < 3 → px_Ca (px_E k) s) {k pc en : Nat} (hk : k < 3) (hpc : pc < en) {cE : ClassId} (hE : s.vm.findClass (px_E k) = some cE) :
    ∀ (L : List (Nat × Nat × Nat)) (T : List ExceptionTableEntry), T.map px_row = L.map (fun q => (0, en, q.1, q.2.1)) → (∀ q ∈ L, q.2.1 ≠ 0 ∧ q.2.2 < 3 ∧ (Cond.classLink own q.2.1 (px_E q.2.2)).before args s = true) → k ∈ L.map (fun q => q.2.2) →
      ∃ (pre : List ExceptionTableEntry) (h : ExceptionTableEntry) (rest : List ExceptionTableEntry) (cT : ClassId), T = pre ++ h :: rest ∧ (∀ y ∈ pre, px_pass pl s m.cls pc cE y) ∧ covers h pc = true ∧ h.catchType ≠ 0 ∧ s.vm.ClassLinks pl m.cls h.catchType cT ∧ s.vm.assignable cE cT = true ∧ h.handlerPc = px_lk L k := by
  intro L
  induction L with
  | nil => intro T _ _ hm; simp at hm
  | cons q L ih =>
    intro T hT hL hm
    cases T with
    | nil => simp at hT
    | cons e1 T' =>
      rw [List.map_cons, List.map_cons, List.cons.injEq] at hT
      obtain ⟨hT1, hT2⟩ := hT
      simp only [px_row, Prod.mk.injEq] at hT1
      obtain ⟨a1, a2, a3, a4⟩ := hT1
      have hcov : covers e1 pc = true := by simp [covers, a1, a2, hpc]
      obtain ⟨q1, q2, q3⟩ := hL q List.mem_cons_self
      obtain ⟨c', hc', hl'⟩ := Cond.classLink_spec hown q3 pl hpl
      by_cases hqk : q.2.2 = k
      · refine ⟨[], e1, T', c', rfl, (fun y hy => by cases hy), hcov, (by rw [a4]; exact q1), (by rw [a4]; exact hl'), ?_, (by rw [a3]; simp [px_lk, hqk])⟩
        obtain ⟨c0, h0, h1⟩ := hC k hk
        rw [hqk] at hc'
        cases hE.symm.trans h0
        cases hc'.symm.trans h0
        exact h1
      · have hm' : k ∈ L.map (fun q => q.2.2) := by
          rw [List.map_cons] at hm
          rcases List.mem_cons.mp hm with h | h
          · exact absurd h.symm hqk
          · exact h
        obtain ⟨pre, h, rest, cT, b1, b2, b3, b4, b5, b6, b7⟩ := ih T' hT2 (fun z hz => hL z (List.mem_cons_of_mem _ hz)) hm'
        refine ⟨e1 :: pre, h, rest, cT, by rw [b1]; rfl, ?_, b3, b4, b5, b6, by rw [b7]; simp [px_lk, hqk]⟩
        intro y hy
        rcases List.mem_cons.mp hy with rfl | hy
        · obtain ⟨ci, cj, n1, n2, n3⟩ := hN k q.2.2 hk q2 (fun z => hqk z.symm)
          cases hE.symm.trans n1
          cases hc'.symm.trans n2
          exact Or.inr ⟨by rw [a4]; exact q1, c', by rw [a4]; exact hl', n3⟩
        · exact b2 y hy
theorem px_ofWW {l : Launch} {y : MethodName} {ws ws' : List Cond} {rm : Room} {Pc : Array Value → State → Prop} {Qc : Array Value → State → Outcome → State → Prop} {mc ms mx nx : Nat} {free : Addr → Prop} {cc : ByteArray} {maxL : Nat} {ret : Option FieldType} {hs : List (Nat × Nat × Nat × Nat)}
    (hy : plainName y.cls = true) (hw : ws = Cond.codeWith y cc maxL ret hs :: ws')
    (body : ∀ p e s m args below meth c s₁, BodyLoose p l y (headSpec ws rm) cc maxL ret e s m args below meth c s₁ → c.maxLocals = maxL → c.exceptionTable.toList.map px_row = hs → Pc args s →
      W p l e (headSpec ws rm).room s m args below meth c s.heap [] 0 0 (px_MQ below Qc args s mc ms mx nx free) (entryFrame m args maxL)) : px_Met l y ws rm Pc Qc mc ms mx nx free := by
  refine MetFree.of_bodyS (code := cc) (maxLocals := maxL) (ret := ret) hy ?_ ?_
  · intro args s m h hn
    obtain ⟨m', meth, c, h0, h1, h2, h3, h4, -, h6, h7, -⟩ := Cond.codeWith_spec (atoms_spec (ws := ws) h _ (by rw [hw]; exact List.mem_cons_self))
    cases hn.symm.trans h0
    exact ⟨meth, c, h1, h2, h3, h4, h6, h7⟩
  · intro p e s m args below meth c s₁ B hml hP _
    have hh0 : s₁.heap = s.heap := by rw [B.state]; rfl
    have he : c.exceptionTable.toList.map px_row = hs := by
      obtain ⟨m', meth', c', h0, h1, h2, h3, h4, h5, -, -, -⟩ := Cond.codeWith_spec (atoms_spec (ws := ws) B.pre _ (by rw [hw]; exact List.mem_cons_self))
      cases B.named.symm.trans h0
      cases B.method.symm.trans h1
      cases (Stand.of_body B).code.symm.trans h2
      exact h5
    obtain ⟨t, a1, o, b1, b2, b3⟩ := body p e s m args below meth c s₁ B hml he hP s₁ hh0 (Stand.of_body B)
    exact ⟨t, o, a1, b1, b2, ⟨b3.1, b3.2⟩⟩
section
variable {p : Program} {l : Launch} {e : Env} {R : Room} {s : State} {m : MethodId} {args : Array Value} {below : List Frame} {meth : Method} {c : Code} {H : Heap} {locs : List Loc} {cells slots : Nat}
  {Ts ws : List Cond} {cc bytes : ByteArray} {nL maxL index n mc ms mx nx : Nat} {own : String} {y : MethodName} {ret : Option FieldType} {hs : List (Nat × Nat × Nat × Nat)} {rm : Room} {Pc : Array Value → State → Prop} {Qc : Array Value → State → Outcome → State → Prop} {free : Addr → Prop} {As rest : List Value} {g : JFrame}
/-- a static method with catches of its own -/
theorem px_runSW (S : CallFix p m c cc nL s args Ts own) (hM : px_Met l y ws rm Pc Qc mc ms mx nx free) (hcode : (Cond.codeWith y bytes maxL ret hs).before args s = true) (hini : (Cond.initialized y.cls).before args s = true) (hl : (Cond.methodLink own index y).before args s = true) (hstt : (Cond.static y).before args s = true)
    (hws : ∀ w ∈ ws, ∀ (a' : Array Value) (U : State), s.WarmedH U.vm → w.before a' U = true) (hd : y.cls ≠ "java/lang/invoke/MethodHandle" ∧ y.cls ≠ "java/lang/invoke/VarHandle" ∧ (parseMethodDescriptor y.desc).map (fun d => d.parameters.length) = some n) (hR : rm.frames + 1 ≤ R.frames ∧ 8 + (maxL + 11) + rm.locals ≤ R.locals) (hp : PreS s H Pc As)
    (hg : g.method = m) (hn : As.length = n) (hsize : g.locals.size = nL) (hstack : g.stack = As.reverse ++ rest) (hW : 2 * g.monitorRoom + (rest.map fun v => v.category).sum ≤ 8) (hdg : decode cc g.pc = .ok (.invokestatic index, 3)) (hf : cells + rm.cells ≤ R.cells ∧ slots + rm.slots ≤ R.slots) :
    px_Run p l e R s m args below meth c H locs cells slots mc ms mx nx g rest (Qc As.toArray) free := by
  obtain ⟨hx, hb, hml, ho, -⟩ := S
  intro T hT X
  obtain ⟨mk, methM, cM, hnamed, hmethM, hcM, -, hlM, -, -, -, hsigM⟩ := Cond.codeWith_spec hcode
  have hstatic : methM.isStatic = true := Cond.static_spec hnamed hmethM hstt
  obtain ⟨kP, hkP, -⟩ := className_of_methodNamed hnamed
  have hinitP : kP.init = .initialized := Cond.initialized_spec (findClass_of_methodNamed hnamed) hkP hini
  have hlen : As.length = methM.sig.parameters.length := by
    have h2 := hd.2.2
    rw [hsigM] at h2
    rw [hn]
    exact (Option.some.inj h2).symm
  obtain ⟨vm₁, X₁, hstep₁⟩ := X.invokestatic hx ho hl hnamed hmethM hstatic hkP hinitP ⟨hd.1, hd.2.1⟩ (g := g) hg (argsL := As) (rest := rest) hlen hstack (by rw [hb]; exact hdg)
  obtain ⟨o, t, L, hq, hL, hE⟩ := px_core X₁ (g := { g with stack := rest }) hg (hsize.trans hml.symm) (ig := .invokestatic index) (len := 3) (by rw [hb]; exact hdg) hW (y := y) (mk := mk) (a := As.toArray) (X₁.named hnamed) (by rw [X₁.warmed.alike.method?]; exact hmethM) hcM hlM
    (word_at X₁.warmed (Or.inl (by first | rfl | simp [Cond.onTables, Cond.keeps, Cond.steady])) hini) hM (fun w hw => hws w hw _ _ X₁.warmed) hR.1 hR.2 hf.1 hf.2 (hp.1 _ _ _ _ (hp.2 (T.setVm vm₁) hT X₁.warmed))
  refine ⟨o, _, t, L, ?_, hq, hL, ?_⟩
  · exact hT
  rcases hE with ⟨v, T', h1, h2, h3, X', st⟩ | ⟨x, T', h1, h2, h3, X', st⟩
  · exact Or.inl ⟨v, T', h1, h2, h3, X', fun target h => hstep₁ _ fun acts => by rw [doInvoke_state]; exact st.trans h⟩
  · exact Or.inr ⟨x, T', h1, h2, h3, X', fun target h => hstep₁ _ fun acts => by rw [doInvoke_state]; exact st.trans h⟩
end
/-- which cells a helper may change: the object's, the row for the answer, what is new -/
def hx_F (a : Nat → Nat) (o sz : Nat) : Nat → Prop := fun q => pw_F 40 a sz q ∨ q = o
abbrev hx_o (o : Nat) (cL : ClassId) (f : Nat → Int64) : va_W := [(o, .inl (cL, 1, .inr (.inl f)))]
abbrev hx_T (cA cZ cL : ClassId) : List (ClassId × FieldType) := [(cA, .int), (cZ, .boolean), (cL, .long)]
abbrev hx_B (D : va_G) (a : Nat → Nat) (cA cZ cL : ClassId) (G : pG) (o : Nat) (u : pS) (f : Nat → Int64) (t : State) : Prop := va_P D vwCl (cw a cA cZ G u) t.heap ∧ va_P D vwCl (hx_o o cL f) t.heap ∧ va_K D vwCl (hx_T cA cZ cL) t
abbrev hx_pre (D : va_G) (a : Nat → Nat) (cA cZ cL : ClassId) (G : pG) (o sz : Nat) (u : pS) (f : Nat → Int64) (U : State) : Prop := (U.heap.size = sz ∧ hx_B D a cA cZ cL G o u f U) ∧ cw_Ex (hx_F a o sz) U ∧ px_ExN U
def hx_Q (Z : Int32 → pS → (Nat → Int64) → Prop) (D : va_G) (a : Nat → Nat) (cA cZ cL : ClassId) (G : pG) (o : Nat) (A : Nat → Prop) : Array Value → State → Outcome → State → Prop := fun _ st oc t =>
  (∃ (k : Int32) (u : pS) (f : Nat → Int64), oc = .returned (some (.int k)) ∧ Z k u f ∧ hx_B D a cA cZ cL G o u f t) ∧ va_F A st t
theorem hx_blind {av : List Value} {D : va_G} {a : Nat → Nat} {cA cZ cL : ClassId} {G : pG} {o sz : Nat} {u : pS} {f : Nat → Int64} : FrameBlind (va_Pc av (hx_pre D a cA cZ cL G o sz u f)) := by
  intro v U g mk q
  obtain ⟨q0, ⟨q1, qP, qO, qK⟩, qE, qN⟩ := q
  exact ⟨q0, ⟨q1, qP, qO, va_K.moved (u := U) (U := U.calling g mk v) (Vm.Alike.refl U.vm) qK⟩, cw_Ex.same (u := U) (U := U.calling g mk v) rfl rfl qE, px_ExN.moved (u := U) (U := U.calling g mk v) (Vm.Alike.refl U.vm) qN⟩
section
variable {p : Program} {l : Launch} {e : Env} {R : Room} {s : State} {m : MethodId} {args : Array Value} {below : List Frame} {meth : Method} {c : Code} {H : Heap} {locs : List Loc} {Z : State → Prop}
variable {pc : Nat} {ls : Array Slot} {rest st0 : List Value} {aa : Array Value} {D : va_G} {a : Nat → Nat} {wd : pS → va_W} {tys : List (ClassId × FieldType)} {A : Nat → Prop} {X : Nat → pS → Prop} {Q : Int32 → pS → Prop}
/-- the call in a helper: it comes back, or the kind's own catch goes on -/
theorem hx_call {own : String} {en : Nat} {L : List (Nat × Nat × Nat)} (hr : px_Run p l e R s m args below meth c H locs 0 0 0 0 1 6 (F0 m pc ls st0) rest (px_Qi Q X (pw_B D wd tys) (pw_F 40 a H.size) aa) (pw_F 40 a H.size)) (hS : va_S A s.heap H locs) (hF : ∀ k, k < 40 → A (a k)) (hA : ∀ q : Nat, s.heap.size ≤ q → A q)
    (hown : s.vm.findClass own = some m.cls) (hN : px_ExN s) (hC : ∀ k, k < 3 → px_Ca (px_E k) s) (hpc : pc < en) (hT : c.exceptionTable.toList.map px_row = L.map (fun q => (0, en, q.1, q.2.1))) (hL : ∀ q ∈ L, q.2.1 ≠ 0 ∧ q.2.2 < 3 ∧ (Cond.classLink own q.2.1 (px_E q.2.2)).before args s = true)
    (hX : ∀ k u, X k u → k ∈ L.map (fun q => q.2.2))
    (kr : ∀ (r : Int32) (u : pS) (H1 : Heap) (locs : List Loc), va_P D vwCl (wd u) H1 → va_S A s.heap H1 locs → (∀ q : Nat, q < H.size → ¬ pw_F 40 a H.size q → H1[q]? = H[q]?) → Q r u → W p l e R s m args below meth c H1 locs 0 0 Z (F0 m (pc + 3) ls (.int r :: rest)))
    (kt : ∀ (k : Nat) (x : Addr) (u : pS) (H1 : Heap) (locs : List Loc), va_P D vwCl (wd u) H1 → va_S A s.heap H1 locs → (∀ q : Nat, q < H.size → ¬ pw_F 40 a H.size q → H1[q]? = H[q]?) → X k u → W p l e R s m args below meth c H1 locs 1 6 Z (F0 m (px_lk L k) ls [.ref x])) : W p l e R s m args below meth c H locs 0 0 Z (F0 m pc ls st0) := by
  intro T hT0 Xs
  obtain ⟨o, st₀, t, L1, h0, ⟨hq, hf1, hf2⟩, hL1, hcase⟩ := hr T hT0 Xs
  rw [h0] at hf1 hf2
  have hS1 : va_S A s.heap t.heap (locs ++ L1) := px_S hS hf1 hf2 (pw_FA hS hF hA) hL1
  have hpl : e.platform.magicAccessors = ({} : Platform).magicAccessors := by rw [Xs.admits.platform]
  rcases hcase with ⟨v, T', ho, h1, h2, X', st⟩ | ⟨x, T', ho, h1, h2, X', st⟩
  · rcases hq with ⟨r, u, e1, e2, e3⟩ | ⟨k, x, u, e1, -⟩
    · rw [ho] at e1
      cases e1
      obtain ⟨t', a1, a2⟩ := kr r u t.heap (locs ++ L1) e3.1 hS1 hf2 e2 T' h1 X'
      exact ⟨t', st _ a1, a2⟩
    · rw [ho] at e1; cases e1
  · rcases hq with ⟨r, u, e1, -⟩ | ⟨k, x', u, e1, e2, e3, ce, c1, c2, c3⟩
    · rw [ho] at e1; cases e1
    · rw [ho] at e1
      cases e1
      have hkm := hX k u e2
      obtain ⟨q0, hq0, hq1⟩ := List.mem_map.mp hkm
      have hk3 : k < 3 := by rw [← hq1]; exact (hL q0 hq0).2.1
      have hfE : s.vm.findClass (px_E k) = some ce.cls := by
        have hal : s.vm.Alike t.vm := by rw [← h2]; exact X'.warmed.alike
        rw [hal.findClass] at c3; exact c3
      obtain ⟨pre, h, rs, cT, b1, b2, b3, b4, b5, b6, b7⟩ := px_cat (m := m) (args := args) hpl hown hN hC hk3 hpc hfE L _ hT hL hkm
      obtain ⟨kc, hkc, -⟩ := Vm.findClass_spec hfE
      obtain ⟨vm', X2, st2⟩ := px_caught X' x (g := F0 m pc ls rest) rfl (by rw [h1]; exact c1) c2 ⟨kc, hkc⟩ pre h rs b1 b2 b3 b4 b5 b6
      obtain ⟨t', a1, a2⟩ := kt k x u t.heap (locs ++ L1) e3.1 hS1 hf2 e2 (T'.setVm vm') h1 X2
      rw [← b7] at a1
      exact ⟨t', st _ (st2 _ a1), a2⟩
end
