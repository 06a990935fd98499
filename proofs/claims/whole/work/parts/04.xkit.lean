/-! OWN ROWS: methods that may throw. px_Met: a contract with two ends (it returns: at most mc cells of ms slots are new; it throws: mx of nx). -/
def px_End (st : State) (o : Outcome) (t : State) (L : List Loc) (mc ms mx nx : Nat) : Prop :=
  st.WarmedH t.vm ∧ (((∃ v, o = .returned v) ∧ st.sameButNew ({ t with vm := st.vm } : State) L mc ms) ∨ ((∃ x, o = .threw x) ∧ st.sameButNew ({ t with vm := st.vm } : State) L mx nx))
def px_Met (l : Launch) (y : MethodName) (ws : List Cond) (rm : Room) (Pc : Array Value → State → Prop) (Qc : Array Value → State → Outcome → State → Prop) (mc ms mx nx : Nat) (free : Addr → Prop) : Prop :=
  MetFree l y (headSpec ws rm) Pc (fun _ _ _ _ _ => True) (fun a st o t => Qc a st o t ∧ ∃ L, px_End st o t L mc ms mx nx ∧ ∀ q ∈ L, free q.base)
def px_MQ (below : List Frame) (Qc : Array Value → State → Outcome → State → Prop) (a : Array Value) (s : State) (mc ms mx nx : Nat) (free : Addr → Prop) : State → Prop := fun t =>
  ∃ o, t.status = .running ∧ Ended t below o ∧ Qc a s o t ∧ ∃ L, px_End s o t L mc ms mx nx ∧ ∀ q ∈ L, free q.base
theorem px_ofMQ {below : List Frame} {Qc Qd : Array Value → State → Outcome → State → Prop} {a : Array Value} {s : State} {mc ms mx nx : Nat} {free : Addr → Prop} (hq : ∀ o t, Qc a s o t → Qd a s o t) {t : State} (h : MQ below Qc a s mc ms free t) : px_MQ below Qd a s mc ms mx nx free t := by
  obtain ⟨o, h1, h2, h3, L, ⟨h4, h5, h6⟩, h7⟩ := h
  exact ⟨o, h1, h2, hq _ _ h3, L, ⟨h5, Or.inl ⟨h4, h6⟩⟩, h7⟩
section
variable {p : Program} {l : Launch} {e : Env} {R : Room} {s : State} {m : MethodId} {args : Array Value} {below : List Frame} {meth : Method} {c : Code} {H : Heap} {locs : List Loc} {cells slots : Nat} {Z Z' : State → Prop} {g : JFrame}
theorem px_mono (h : ∀ t, Z t → Z' t) (k : W p l e R s m args below meth c H locs cells slots Z g) : W p l e R s m args below meth c H locs cells slots Z' g := by
  intro T hT X
  obtain ⟨t, a, b⟩ := k T hT X
  exact ⟨t, a, h t b⟩
theorem px_ofW {y : MethodName} {ws ws' : List Cond} {rm : Room} {Pc : Array Value → State → Prop} {Qc : Array Value → State → Outcome → State → Prop} {mc ms mx nx : Nat} {free : Addr → Prop} {cc : ByteArray} {maxL : Nat} {ret : Option FieldType}
    (hy : plainName y.cls = true) (hw : ws = Cond.code y cc maxL ret :: ws')
    (body : ∀ p e s m args below meth c s₁, BodyLoose p l y (headSpec ws rm) cc maxL ret e s m args below meth c s₁ → c.maxLocals = maxL → c.exceptionTable.isEmpty = true → Pc args s →
      W p l e (headSpec ws rm).room s m args below meth c s.heap [] 0 0 (px_MQ below Qc args s mc ms mx nx free) (entryFrame m args maxL)) : px_Met l y ws rm Pc Qc mc ms mx nx free := by
  refine MetFree.of_bodyS (code := cc) (maxLocals := maxL) (ret := ret) hy ?_ ?_
  · intro args s m h hn
    obtain ⟨meth, c, h1, h2, h3, h4, h5, h6, -, -⟩ := Cond.code_spec hn (atoms_spec (ws := ws) h _ (by rw [hw]; exact List.mem_cons_self))
    exact ⟨meth, c, h1, h2, h3, h4, h5, h6⟩
  · intro p e s m args below meth c s₁ B hml hP _
    have hh0 : s₁.heap = s.heap := by rw [B.state]; rfl
    have he : c.exceptionTable.isEmpty = true := B.noHandlers (atoms_spec (ws := ws) B.pre _ (by rw [hw]; exact List.mem_cons_self))
    obtain ⟨t, a1, o, b1, b2, b3⟩ := body p e s m args below meth c s₁ B hml he hP s₁ hh0 (Stand.of_body B)
    exact ⟨t, o, a1, b1, b2, ⟨b3.1, b3.2⟩⟩
/-- behind the instruction that calls: the callee, by its contract, comes back or throws -/
theorem px_core {U : State} (X : Stand p l e R s m args below meth c U locs cells slots) {g : JFrame} (hg : g.method = m) (hsize : g.locals.size = c.maxLocals) {ig : Instr} {len : Nat} (hdg : decode c.code g.pc = .ok (ig, len)) {Wd : Nat} (hW : 2 * g.monitorRoom + (g.stack.map fun v => v.category).sum ≤ Wd)
    {y : MethodName} {mk : MethodId} {a : Array Value} {methY : Method} {cY : Code} {maxL : Nat} (hn : U.methodNamed? y = some mk) (hmY : U.vm.method? mk = some methY) (hcY : methY.code = some cY) (hlY : cY.maxLocals = maxL) (hini : (Cond.initialized y.cls).before a U = true)
    {ws : List Cond} {rm : Room} {Pc : Array Value → State → Prop} {Qc : Array Value → State → Outcome → State → Prop} {mc ms mx nx : Nat} {free : Addr → Prop} (hM : px_Met l y ws rm Pc Qc mc ms mx nx free)
    (hws : ∀ w ∈ ws, w.before a U = true) (hframes : rm.frames + 1 ≤ R.frames) (hlocals : Wd + (maxL + 11) + rm.locals ≤ R.locals) (hcells : cells + rm.cells ≤ R.cells) (hslots : slots + rm.slots ≤ R.slots) (hPc : Pc a (U.calling g mk a)) :
    ∃ (o : Outcome) (t : State) (L : List Loc), Qc a (U.calling g mk a) o t ∧ (∀ q ∈ L, free q.base) ∧
      ((∃ (v : Option Value) (T' : State), o = .returned v ∧ T'.heap = t.heap ∧ T'.vm = t.vm ∧ Stand p l e R s m args below meth c T' (locs ++ L) (cells + mc) (slots + ms) ∧ Steps p.tables e below (doInvoke e (U.setTop g) [] mk a).1 (T'.setTop { g with pc := g.pc + len, stack := v.toList ++ g.stack })) ∨
       (∃ (x : Addr) (T' : State), o = .threw x ∧ T'.heap = t.heap ∧ T'.vm = t.vm ∧ Stand p l e R s m args below meth c T' (locs ++ L) (cells + mx) (slots + nx) ∧ Steps p.tables e below (doInvoke e (U.setTop g) [] mk a).1 ((T'.setTop g).pushFrame (.throwing x)))) := by
  obtain ⟨kY, hkY, -⟩ := className_of_methodNamed hn
  have hinitY : kY.init = .initialized := Cond.initialized_spec (findClass_of_methodNamed hn) hkY hini
  have h : At U g.method c below := by rw [hg]; exact X.here
  have happ : (headSpec ws rm).appliesLoose y e.platform (U.calling g mk a) = true :=
    Spec.appliesLoose_calling (g := g) h hdg hn hkY hinitY (X.room_calling (g := g) (R' := rm) hsize hmY hcY hframes (by rw [hlY]; omega) hcells hslots) (atoms_intro hws)
  have hfr : (U.setTop g).frames = [.java g] ++ below := by rw [State.frames_setTop' g h.top, X.tail]; rfl
  obtain ⟨o, s₂, hsteps, -, hend, hq, L, hE, hL⟩ := Steps.callFree hM p X.admits X.cas X.clock (acts := []) hfr happ hPc trivial
  rw [hfr] at hend
  obtain ⟨hW2, hE⟩ := hE
  rcases hE with ⟨⟨v, rfl⟩, hs⟩ | ⟨⟨x, rfl⟩, hs⟩
  · obtain ⟨T', X', -, -, ht⟩ := X.outOf hg hdg hend hW2 hs
    refine ⟨_, s₂, L, hq, hL, Or.inl ⟨v, T', rfl, ?_, ?_, X', ?_⟩⟩
    · rw [ht]; rfl
    · rw [ht]; rfl
    · rw [← ht]; exact hsteps
  · obtain ⟨T', X', -, -, ht⟩ := X.outOfThrown hg hend hW2 hs
    refine ⟨_, s₂, L, hq, hL, Or.inr ⟨x, T', rfl, ?_, ?_, X', ?_⟩⟩
    · rw [ht]; rfl
    · rw [ht]; rfl
    · rw [← ht]; exact hsteps
end
/-- the launch makes no stack traces -/
def px_L (l : Launch) : Prop := ∀ e : Env, l.admits e → e.platform.stackTraces = false
theorem px_none {c : Code} (h : c.exceptionTable.isEmpty = true) : ∀ (pc : Nat), ∀ x ∈ c.exceptionTable.toList, covers x pc = false := by
  have h0 : c.exceptionTable.size = 0 := by simpa [Array.isEmpty] using h
  have h1 : c.exceptionTable.toList = [] := List.eq_nil_of_length_eq_zero (by simpa using h0)
  intro pc x hx
  rw [h1] at hx
  cases hx
/-- a call that may throw, as the caller's walk sees it -/
def px_Run (p : Program) (l : Launch) (e : Env) (R : Room) (s : State) (m : MethodId) (args : Array Value) (below : List Frame) (meth : Method) (c : Code) (H : Heap) (locs : List Loc) (cells slots mc ms mx nx : Nat) (g : JFrame) (rest : List Value) (Qa : State → Outcome → State → Prop) (free : Addr → Prop) : Prop :=
  ∀ T : State, T.heap = H → Stand p l e R s m args below meth c T locs cells slots → ∃ (o : Outcome) (st₀ t : State) (L : List Loc), st₀.heap = H ∧ Qa st₀ o t ∧ (∀ q ∈ L, free q.base) ∧
    ((∃ (v : Option Value) (T' : State), o = .returned v ∧ T'.heap = t.heap ∧ T'.vm = t.vm ∧ Stand p l e R s m args below meth c T' (locs ++ L) (cells + mc) (slots + ms) ∧ Goes p e below T g T' { g with pc := g.pc + 3, stack := v.toList ++ rest }) ∨
     (∃ (x : Addr) (T' : State), o = .threw x ∧ T'.heap = t.heap ∧ T'.vm = t.vm ∧ Stand p l e R s m args below meth c T' (locs ++ L) (cells + mx) (slots + nx) ∧ ∀ target, Steps p.tables e below ((T'.setTop { g with stack := rest }).pushFrame (.throwing x)) target → Steps p.tables e below (T.setTop g) target))
section
variable {p : Program} {l : Launch} {e : Env} {R : Room} {s : State} {m : MethodId} {args : Array Value} {below : List Frame} {meth : Method} {c : Code} {H : Heap} {locs : List Loc} {cells slots : Nat}
  {Ts ws ws' : List Cond} {cc bytes : ByteArray} {nL maxL index n mc ms mx nx k1 k2 : Nat} {own C : String} {y : MethodName} {ret : Option FieldType} {rm : Room} {Pc : Array Value → State → Prop} {Qc : Array Value → State → Outcome → State → Prop} {free : Addr → Prop}
  {b : Addr} {As rest : List Value} {g : JFrame}
theorem px_runS (S : CallFix p m c cc nL s args Ts own) (hM : px_Met l y ws rm Pc Qc mc ms mx nx free) (cw : CallB R s args own index y bytes maxL ret ws rm k1 k2 n ∧ (Cond.static y).before args s = true) (hp : PreS s H Pc As)
    (hg : g.method = m) (hn : As.length = n) (hsize : g.locals.size = nL) (hstack : g.stack = As.reverse ++ rest) (hW : 2 * g.monitorRoom + (rest.map fun v => v.category).sum ≤ 8) (hdg : decode cc g.pc = .ok (.invokestatic index, 3)) (hf : cells + rm.cells ≤ R.cells ∧ slots + rm.slots ≤ R.slots) :
    px_Run p l e R s m args below meth c H locs cells slots mc ms mx nx g rest (Qc As.toArray) free := by
  obtain ⟨⟨-, -, hfr, hlo, hws, -, hcode, hini, hy, hlen, hl⟩, hstt⟩ := cw
  obtain ⟨hx, hb, hml, ho, -⟩ := S
  intro T hT X
  obtain ⟨mk, hnamed⟩ := Cond.code_named hcode
  obtain ⟨methM, cM, hmethM, hcM, -, hlM, -, -, -, hsigM⟩ := Cond.code_spec hnamed hcode
  have hstatic : methM.isStatic = true := Cond.static_spec hnamed hmethM hstt
  obtain ⟨kP, hkP, -⟩ := className_of_methodNamed hnamed
  have hinitP : kP.init = .initialized := Cond.initialized_spec (findClass_of_methodNamed hnamed) hkP hini
  obtain ⟨vm₁, X₁, hstep₁⟩ := X.invokestatic hx ho hl hnamed hmethM hstatic hkP hinitP hy (g := g) hg (argsL := As) (rest := rest) (hn.trans (hlen _ hsigM)) hstack (by rw [hb]; exact hdg)
  obtain ⟨o, t, L, hq, hL, hE⟩ := px_core X₁ (g := { g with stack := rest }) hg (hsize.trans hml.symm) (ig := .invokestatic index) (len := 3) (by rw [hb]; exact hdg) hW (y := y) (mk := mk) (a := As.toArray) (X₁.named hnamed) (by rw [X₁.warmed.alike.method?]; exact hmethM) hcM hlM
    (word_at X₁.warmed (Or.inl (by first | rfl | simp [Cond.onTables, Cond.keeps, Cond.steady])) hini) hM (fun w hw => hws w hw _ _ X₁.warmed) hfr hlo hf.1 hf.2 (hp.1 _ _ _ _ (hp.2 (T.setVm vm₁) hT X₁.warmed))
  refine ⟨o, _, t, L, ?_, hq, hL, ?_⟩
  · exact hT
  rcases hE with ⟨v, T', h1, h2, h3, X', st⟩ | ⟨x, T', h1, h2, h3, X', st⟩
  · exact Or.inl ⟨v, T', h1, h2, h3, X', fun target h => hstep₁ _ fun acts => by rw [doInvoke_state]; exact st.trans h⟩
  · exact Or.inr ⟨x, T', h1, h2, h3, X', fun target h => hstep₁ _ fun acts => by rw [doInvoke_state]; exact st.trans h⟩
theorem px_runV (S : CallFix p m c cc nL s args Ts own) (hM : px_Met l y ws rm Pc Qc mc ms mx nx free) (cw : CallW R s args own C index y bytes maxL ret ws rm k1 k2 n) (hp : PreV s H C b Pc As)
    (hg : g.method = m) (hn : As.length = n) (hsize : g.locals.size = nL) (hstack : g.stack = As.reverse ++ .ref b :: rest) (hW : 2 * g.monitorRoom + (rest.map fun v => v.category).sum ≤ 8) (hdg : decode cc g.pc = .ok (.invokevirtual index, 3)) (hf : cells + rm.cells ≤ R.cells ∧ slots + rm.slots ≤ R.slots) :
    px_Run p l e R s m args below meth c H locs cells slots mc ms mx nx g rest (Qc (Value.ref b :: As).toArray) free := by
  obtain ⟨⟨-, -, hfr, hlo, hws, -, hcode, hini, hy, hlen, hl⟩, hin, hse⟩ := cw
  obtain ⟨hx, hb, hml, ho, -⟩ := S
  obtain ⟨hbl, ⟨cellB, hcB, hoB, hclB⟩, hPc⟩ := hp
  intro T hT X
  obtain ⟨mk, methM, hnamed, hmethM, hstM, habM⟩ := Cond.instanceMethod_spec hin
  obtain ⟨methM', cM, hmethM', hcM, -, hlM, -, -, -, hsigM⟩ := Cond.code_spec hnamed hcode
  cases hmethM.symm.trans hmethM'
  obtain ⟨c2, r2, m2, q1, q2, q3, q4, kP, hkP, hkPi⟩ := Cond.selects_spec hse
  cases hclB.symm.trans q1
  cases (State.methodFound?_of_named hnamed hy).symm.trans q2
  cases hnamed.symm.trans q3
  have hselP : selectMethod e.platform s.vm cellB.cls mk = .method mk := by rw [Launch.admits_selectMethod X.admits]; exact q4
  obtain ⟨vm₁, X₁, hstep₁⟩ := X.invokevirtual hx ho hl hnamed hmethM hstM hkP hkPi hy (a := b) (cell := cellB) (by rw [hT]; exact hcB)
    (fun z h => by rw [h] at hoB; cases hoB) hselP hmethM habM hkP hkPi (g := g) hg (argsL := As) (rest := rest) (hn.trans (hlen _ hsigM)) hstack (by rw [hb]; exact hdg)
  obtain ⟨o, t, L, hq, hL, hE⟩ := px_core X₁ (g := { g with stack := rest }) hg (hsize.trans hml.symm) (ig := .invokevirtual index) (len := 3) (by rw [hb]; exact hdg) hW (y := y) (mk := mk) (a := (Value.ref b :: As).toArray) (X₁.named hnamed) (by rw [X₁.warmed.alike.method?]; exact hmethM) hcM hlM
    (word_at X₁.warmed (Or.inl (by first | rfl | simp [Cond.onTables, Cond.keeps, Cond.steady])) hini) hM (fun w hw => hws w hw _ _ X₁.warmed) hfr hlo hf.1 hf.2 (hbl _ _ _ _ (hPc (T.setVm vm₁) hT X₁.warmed))
  refine ⟨o, _, t, L, ?_, hq, hL, ?_⟩
  · exact hT
  rcases hE with ⟨v, T', h1, h2, h3, X', st⟩ | ⟨x, T', h1, h2, h3, X', st⟩
  · exact Or.inl ⟨v, T', h1, h2, h3, X', fun target h => hstep₁ _ fun acts => by rw [doInvoke_state]; exact st.trans h⟩
  · exact Or.inr ⟨x, T', h1, h2, h3, X', fun target h => hstep₁ _ fun acts => by rw [doInvoke_state]; exact st.trans h⟩
end
/-- the kinds of exceptions, and an object of such a kind -/
def px_E : Nat → String
  | 0 => "java/lang/IllegalStateException"
  | 1 => "java/lang/IndexOutOfBoundsException"
  | _ => "java/lang/IllegalArgumentException"
def px_Ob (k : Nat) (x : Addr) (H : Heap) (U : State) : Prop := ∃ ce : Cell, H[x]? = some ce ∧ ce.vm = .none ∧ U.vm.findClass (px_E k) = some ce.cls
theorem px_Ob.moved {k : Nat} {x : Addr} {H : Heap} {u U : State} (hvm : u.vm.Alike U.vm) (h : px_Ob k x H u) : px_Ob k x H U := by
  obtain ⟨ce, h1, h2, h3⟩ := h
  exact ⟨ce, h1, h2, by rw [hvm.findClass]; exact h3⟩
abbrev px_T (X : Nat → pS → Prop) (B : pS → State → Prop) (oc : Outcome) (t : State) : Prop := ∃ (k : Nat) (x : Addr) (u : pS), oc = .threw x ∧ X k u ∧ B u t ∧ px_Ob k x t.heap t
def px_Qi (post : Int32 → pS → Prop) (X : Nat → pS → Prop) (B : pS → State → Prop) (A : Nat → Prop) : Array Value → State → Outcome → State → Prop := fun _ st oc t => ((∃ (r : Int32) (u : pS), oc = .returned (some (.int r)) ∧ post r u ∧ B u t) ∨ px_T X B oc t) ∧ va_F A st t
def px_Qv (post : pS → Prop) (X : Nat → pS → Prop) (B : pS → State → Prop) (A : Nat → Prop) : Array Value → State → Outcome → State → Prop := fun _ st oc t => ((∃ u : pS, oc = .returned none ∧ post u ∧ B u t) ∨ px_T X B oc t) ∧ va_F A st t
abbrev px_Ev (below : List Frame) (args : Array Value) (s : State) (D : va_G) (wd : pS → va_W) (tys : List (ClassId × FieldType)) (A : Nat → Prop) (Q : pS → Prop) (X : Nat → pS → Prop) : State → Prop := px_MQ below (px_Qv Q X (pw_B D wd tys) A) args s 0 0 1 6 A
abbrev px_Ei (below : List Frame) (args : Array Value) (s : State) (D : va_G) (wd : pS → va_W) (tys : List (ClassId × FieldType)) (A : Nat → Prop) (Q : Int32 → pS → Prop) (X : Nat → pS → Prop) : State → Prop := px_MQ below (px_Qi Q X (pw_B D wd tys) A) args s 0 0 1 6 A
theorem px_S {A A1 : Nat → Prop} {H0 H H1 : Heap} {locs L : List Loc} (hS : va_S A H0 H locs) (hz : H.size ≤ H1.size) (hk : ∀ q : Nat, q < H.size → ¬ A1 q → H1[q]? = H[q]?) (hA1 : ∀ q, A1 q → A q) (hL : ∀ q ∈ L, A1 q.base) : va_S A H0 H1 (locs ++ L) := by
  refine ⟨Nat.le_trans hS.1 hz, fun q h1 h2 => ?_, fun q hq => ?_⟩
  · rw [hk q (Nat.lt_of_lt_of_le h1 hS.1) (fun h => h2 (hA1 q h))]
    exact hS.2.1 q h1 h2
  · rcases List.mem_append.mp hq with h | h
    · exact hS.2.2 q h
    · exact hA1 _ (hL q h)
section
variable {p : Program} {l : Launch} {e : Env} {R : Room} {s : State} {m : MethodId} {args : Array Value} {below : List Frame} {meth : Method} {c : Code} {H : Heap} {locs : List Loc} {Z : State → Prop}
variable {pc : Nat} {ls : Array Slot} {rest st0 : List Value} {aa : Array Value} {D : va_G} {n : Nat} {a : Nat → Nat} {wd : pS → va_W} {tys : List (ClassId × FieldType)} {A : Nat → Prop} {X : Nat → pS → Prop} {Qc : Array Value → State → Outcome → State → Prop}
/-- the callee has thrown, and the caller catches nothing: it throws too -/
theorem px_out (hE : ∀ x ∈ c.exceptionTable.toList, covers x pc = false) (hlocks : meth.locks = false) (hz : ∀ oc t, px_T X (pw_B D wd tys) oc t → va_F A s t → Qc args s oc t) {T T' t : State} {x : Addr} {L : List Loc} {o : Outcome}
    (X' : Stand p l e R s m args below meth c T' L 1 6) (ho : o = .threw x) (h1 : T'.heap = t.heap) (h2 : T'.vm = t.vm) (hT : px_T X (pw_B D wd tys) o t) (hS : va_S A s.heap t.heap L)
    (st : ∀ target, Steps p.tables e below ((T'.setTop (F0 m pc ls rest)).pushFrame (.throwing x)) target → Steps p.tables e below (T.setTop (F0 m pc ls st0)) target) :
    ∃ t', Steps p.tables e below (T.setTop (F0 m pc ls st0)) t' ∧ px_MQ below Qc args s 0 0 1 6 A t' := by
  obtain ⟨w1, w2, w3, w4, w5⟩ := X'.leaveThrown x (g := F0 m pc ls rest) rfl rfl rfl hE hlocks
  refine ⟨_, st _ w1, .threw x, w2, w3, hz _ _ ?_ ?_, L, ⟨w4, Or.inr ⟨⟨x, rfl⟩, w5⟩⟩, hS.2.2⟩
  · obtain ⟨k, x', u, e1, e2, ⟨e3, e4⟩, e5⟩ := hT
    rw [ho] at e1
    cases e1
    have hvm : t.vm.Alike (T'.setFrames (.throwing x :: below)).vm := by
      show t.vm.Alike T'.vm
      rw [h2]; exact Vm.Alike.refl _
    refine ⟨k, x, u, rfl, e2, ⟨?_, va_K.moved hvm e4⟩, ?_⟩
    · show va_P D vwCl (wd u) T'.heap
      rw [h1]; exact e3
    · have : px_Ob k x T'.heap t := by rw [h1]; exact e5
      exact px_Ob.moved hvm this
  · exact hS.F (show (T'.setFrames (.throwing x :: below)).heap = t.heap from h1)
theorem cx_v {Q : pS → Prop} (hr : px_Run p l e R s m args below meth c H locs 0 0 0 0 1 6 (F0 m pc ls st0) rest (px_Qv Q X (pw_B D wd tys) (pw_F n a H.size) aa) (pw_F n a H.size)) (hS : va_S A s.heap H locs) (hF : ∀ k, k < n → A (a k)) (hA : ∀ q : Nat, s.heap.size ≤ q → A q)
    (hE : ∀ x ∈ c.exceptionTable.toList, covers x pc = false) (hlocks : meth.locks = false) (hz : ∀ oc t, px_T X (pw_B D wd tys) oc t → va_F A s t → Qc args s oc t)
    (kk : ∀ (u : pS) (H : Heap) (locs : List Loc), va_P D vwCl (wd u) H → va_S A s.heap H locs → Q u → W p l e R s m args below meth c H locs 0 0 (px_MQ below Qc args s 0 0 1 6 A) (F0 m (pc + 3) ls rest)) : W p l e R s m args below meth c H locs 0 0 (px_MQ below Qc args s 0 0 1 6 A) (F0 m pc ls st0) := by
  intro T hT Xs
  obtain ⟨o, st₀, t, L, h0, ⟨hq, hf1, hf2⟩, hL, hcase⟩ := hr T hT Xs
  have hS1 : va_S A s.heap t.heap (locs ++ L) := px_S hS (by rw [h0] at hf1; exact hf1) (by rw [h0] at hf2; exact hf2) (pw_FA hS hF hA) hL
  rcases hcase with ⟨v, T', ho, h1, h2, X', st⟩ | ⟨x, T', ho, h1, h2, X', st⟩
  · rcases hq with ⟨u, e1, e2, e3⟩ | ⟨k, x, u, e1, -⟩
    · rw [ho] at e1
      cases e1
      obtain ⟨t', a1, a2⟩ := kk u t.heap (locs ++ L) e3.1 hS1 e2 T' h1 X'
      exact ⟨t', st _ a1, a2⟩
    · rw [ho] at e1; cases e1
  · rcases hq with ⟨u, e1, -⟩ | hq
    · rw [ho] at e1; cases e1
    · exact px_out hE hlocks hz X' ho h1 h2 hq hS1 st
theorem cx_i {Q : Int32 → pS → Prop} (hr : px_Run p l e R s m args below meth c H locs 0 0 0 0 1 6 (F0 m pc ls st0) rest (px_Qi Q X (pw_B D wd tys) (pw_F n a H.size) aa) (pw_F n a H.size)) (hS : va_S A s.heap H locs) (hF : ∀ k, k < n → A (a k)) (hA : ∀ q : Nat, s.heap.size ≤ q → A q)
    (hE : ∀ x ∈ c.exceptionTable.toList, covers x pc = false) (hlocks : meth.locks = false) (hz : ∀ oc t, px_T X (pw_B D wd tys) oc t → va_F A s t → Qc args s oc t)
    (kk : ∀ (r : Int32) (u : pS) (H : Heap) (locs : List Loc), va_P D vwCl (wd u) H → va_S A s.heap H locs → Q r u → W p l e R s m args below meth c H locs 0 0 (px_MQ below Qc args s 0 0 1 6 A) (F0 m (pc + 3) ls (.int r :: rest))) : W p l e R s m args below meth c H locs 0 0 (px_MQ below Qc args s 0 0 1 6 A) (F0 m pc ls st0) := by
  intro T hT Xs
  obtain ⟨o, st₀, t, L, h0, ⟨hq, hf1, hf2⟩, hL, hcase⟩ := hr T hT Xs
  have hS1 : va_S A s.heap t.heap (locs ++ L) := px_S hS (by rw [h0] at hf1; exact hf1) (by rw [h0] at hf2; exact hf2) (pw_FA hS hF hA) hL
  rcases hcase with ⟨v, T', ho, h1, h2, X', st⟩ | ⟨x, T', ho, h1, h2, X', st⟩
  · rcases hq with ⟨r, u, e1, e2, e3⟩ | ⟨k, x, u, e1, -⟩
    · rw [ho] at e1
      cases e1
      obtain ⟨t', a1, a2⟩ := kk r u t.heap (locs ++ L) e3.1 hS1 e2 T' h1 X'
      exact ⟨t', st _ a1, a2⟩
    · rw [ho] at e1; cases e1
  · rcases hq with ⟨r, u, e1, -⟩ | hq
    · rw [ho] at e1; cases e1
    · exact px_out hE hlocks hz X' ho h1 h2 hq hS1 st
end
theorem px_old {s U : State} {k n : Nat} (h : s.sameButNew U [] k n) : s.heap.size ≤ U.heap.size ∧ ∀ q : Nat, q < s.heap.size → U.heap[q]? = s.heap[q]? := by
  obtain ⟨-, h2, -, -, -, h6⟩ := h
  refine ⟨h2, fun q hq => ?_⟩
  obtain ⟨c', e1, e2, -, e4⟩ := h6 q s.heap[q] (Array.getElem?_eq_getElem hq)
  have e5 : c'.slots = (s.heap[q]).slots := Array.ext_getElem? (fun i => e4 i List.not_mem_nil)
  rw [e1, Array.getElem?_eq_getElem hq, e2, e5]
section
variable {p : Program} {l : Launch} {e : Env} {R : Room} {s : State} {m : MethodId} {args : Array Value} {below : List Frame} {meth : Method} {c : Code} {Z : State → Prop}
variable {pc : Nat} {ls : Array Slot} {rest : List Value} {D : va_G} {wd : pS → va_W} {tys : List (ClassId × FieldType)} {A : Nat → Prop} {X : Nat → pS → Prop} {Qc : Array Value → State → Outcome → State → Prop}
/-- 'throw new E("..")', nothing written before it in this method: the method ends so -/
theorem px_thr {own tx : String} {cc : ByteArray} {ik is ic k q : Nat} {names : List String} {u : pS} (hx : p.tables.exec = Jvm.exec) (hb : c.code = cc) (hml : c.maxLocals = ls.size) (hown : s.vm.findClass own = some m.cls)
    (hclink : (Cond.classLink own ik (px_E k)).before args s = true) (hins : (Cond.instantiable (px_E k) 6).before args s = true) (hinit : (Cond.initialized (px_E k)).before args s = true) (hZ : vk_R own is tx q s)
    (hat : ∀ w ∈ Bundle.ownAtoms own ic (px_E k) names, w.before args s = true) (hfit : Bundle.fit (px_E k) = true) (hnames : ∀ n ∈ names, Bundle.fit n = true) (htr : e.platform.stackTraces = false)
    (hE : ∀ x ∈ c.exceptionTable.toList, covers x (pc + 9) = false) (hlocks : meth.locks = false) (hRf : names.length + 3 < R.frames) (hRl : (rest.map fun v => v.category).sum + 1 + (13 * (names.length + 1) + 42) ≤ R.locals) (hRc : 1 ≤ R.cells) (hRs : 6 ≤ R.slots)
    (hz : ∀ oc t, px_T X (pw_B D wd tys) oc t → va_F A s t → Qc args s oc t) (hP : va_P D vwCl (wd u) s.heap) (hK : va_K D vwCl tys s) (hX : X k u)
    (d0 : decode cc pc = .ok (.new ik, 3)) (d3 : decode cc (pc + 3) = .ok (.dup, 1)) (d4 : decode cc (pc + 4) = .ok (.ldc is, 2)) (d6 : decode cc (pc + 6) = .ok (.invokespecial ic, 3)) (d9 : decode cc (pc + 9) = .ok (.athrow, 1)) :
    W p l e R s m args below meth c s.heap [] 0 0 (px_MQ below Qc args s 0 0 1 6 A) (F0 m pc ls rest) := by
  refine W.newc (g := F0 m pc ls rest) hx hb hown hclink hins hinit rfl d0 (by omega) (by omega) (fun cC kC h1 h2 h3 h4 => ?_)
  refine W.eq (g2 := F0 m (pc + 3) ls (.ref s.heap.size :: rest)) rfl ?_
  refine lv_dup hx hb d3 rfl ?_
  refine va_ldcS hx hb hown hZ d4 ?_
  intro T hT Xs
  obtain ⟨U, st, hrun, hend, hW, hsame, ce, hce, hoc⟩ := Xs.ctorThrowS hx htr hown hfit hnames hat (fun x hx => by cases hx) h1 h2 (a := s.heap.size) (by rw [hT, Array.getElem?_push_size]) (Nat.le_refl _) (msg := .ref q) rfl
    (g := F0 m (pc + 6) ls (.ref q :: .ref s.heap.size :: .ref s.heap.size :: rest)) rfl hml.symm rfl rfl rfl (by rw [hb]; exact d6) (by rw [hb]; exact d9) hE hRf (by
      show 2 * 0 + _ + _ ≤ _
      simp only [List.map_cons, List.sum_cons]
      rw [show (Value.ref (Array.size s.heap)).category = 1 from rfl]
      omega) hlocks
  have hold := px_old hsame
  refine ⟨U, st, .threw s.heap.size, hrun, hend, hz _ _ ⟨k, s.heap.size, u, rfl, hX, ⟨?_, va_K.moved hW.alike hK⟩, ce, hce, hoc.vm, ?_⟩ ⟨hold.1, fun q hq _ => hold.2 q hq⟩, [], ⟨hW, Or.inr ⟨⟨_, rfl⟩, hsame⟩⟩, fun _ h => by cases h⟩
  · exact hP.kept (fun j r hj => hold.2 _ (hP j r hj).lt)
  · rw [hW.alike.findClass]; exact hoc.cls
end
