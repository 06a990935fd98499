/-! OWN ROWS: exceptions that are caught by class, the entries' classes linked or not. -/
def px_pass (pl : Platform) (s : State) (d : ClassId) (pc : Nat) (ct : ClassId) (y : ExceptionTableEntry) : Prop :=
  covers y pc = false ∨ (y.catchType ≠ 0 ∧ ∃ c, s.vm.ClassLinks pl d y.catchType c ∧ s.vm.assignable ct c = false)
/-- one entry that covers the place and names a class: the class is linked, and asked -/
theorem px_go1 {Q : Handler → Pre} {E : CtlPost} {e : Env} {d : Bool} {acts : List Action} {S : State} {f : JFrame} {a : Addr} {x : ExceptionTableEntry} {t : List ExceptionTableEntry} {c : ClassId} {cell : Cell} (hx : covers x f.pc = true) (h0 : x.catchType ≠ 0)
    (hl : S.vm.ClassLinks e.platform f.method.cls x.catchType c) (hcell : S.heap[a]? = some cell) (hobj : ∀ k, cell.vm ≠ .statics k) (hk : ∃ k, S.vm.classes[cell.cls]? = some k) (hc : ∃ k, S.vm.classes[c]? = some k) :
    wp (findHandler.go f a (x :: t)) Q E e d acts S ↔ (if S.vm.assignable cell.cls c = true then Q (.found x.handlerPc) d acts (S.setVm (S.vm.noted f.method.cls x.catchType (.cls c))) else wp (findHandler.go f a t) Q E e d acts (S.setVm (S.vm.noted f.method.cls x.catchType (.cls c)))) := by
  simp only [covers] at hx
  obtain ⟨ha, ht⟩ := (resolveClass_links e.toSetting hl).op (op := VmOp.resolveClass f.method.cls x.catchType) rfl
  have hal : S.vm.Alike (S.vm.noted f.method.cls x.catchType (.cls c)) := (Vm.Alike.refl S.vm).noted _ _ _
  obtain ⟨k1, hk1⟩ := hk
  obtain ⟨k2, hk2⟩ := hc
  obtain ⟨k1', hk1', -⟩ := hal.2.2 _ _ hk1
  obtain ⟨k2', hk2', -⟩ := hal.2.2 _ _ hk2
  cases hq : S.vm.assignable cell.cls c with
  | true =>
    have hq' : (S.vm.noted f.method.cls x.catchType (.cls c)).assignable cell.cls c = true := by rw [hal.assignable]; exact hq
    simp [findHandler.go, hx, h0, ha, ht, hcell, hobj, hk1', hk2', hq', VmOp.dirties, VmOp.acts]
  | false =>
    have hq' : (S.vm.noted f.method.cls x.catchType (.cls c)).assignable cell.cls c = false := by rw [hal.assignable]; exact hq
    simp [findHandler.go, hx, h0, ha, ht, hcell, hobj, hk1', hk2', hq', VmOp.dirties, VmOp.acts]
theorem px_goN {e : Env} {s : State} {f : JFrame} {a : Addr} {cell : Cell} (hobj : ∀ k, cell.vm ≠ .statics k) (hk0 : ∃ k, s.vm.classes[cell.cls]? = some k) (x : ExceptionTableEntry) (rest : List ExceptionTableEntry) (hx : covers x f.pc = true) (h0 : x.catchType ≠ 0) {c : ClassId}
    (hl : s.vm.ClassLinks e.platform f.method.cls x.catchType c) (hfit : s.vm.assignable cell.cls c = true) :
    ∀ (pre : List ExceptionTableEntry) (S : State), s.WarmedH S.vm → S.heap[a]? = some cell → (∀ y ∈ pre, px_pass e.platform s f.method.cls f.pc cell.cls y) →
      ∃ vm', s.WarmedH vm' ∧ ∀ (Q : Handler → Pre) (E : CtlPost) (d : Bool) (acts : List Action), wp (findHandler.go f a (pre ++ x :: rest)) Q E e d acts S ↔ Q (.found x.handlerPc) d acts (S.setVm vm') := by
  obtain ⟨k0, hk0⟩ := hk0
  intro pre
  induction pre with
  | nil =>
    intro S hW hcell _
    obtain ⟨k0', hk0', -⟩ := hW.alike.2.2 _ _ hk0
    obtain ⟨dk, _, _, kt, hd, _, _, _, _, hkt, _, hopen⟩ := hl.here
    obtain ⟨kt', hkt', -⟩ := hW.alike.2.2 _ _ hkt
    refine ⟨_, hW.noted hd hopen (State.rightAt_cls hl), fun Q E d acts => ?_⟩
    rw [List.nil_append, px_go1 hx h0 (hW.classLinks hl) hcell hobj ⟨k0', hk0'⟩ ⟨kt', hkt'⟩, if_pos (by rw [hW.alike.assignable]; exact hfit)]
  | cons y ys ih =>
    intro S hW hcell hpass
    obtain ⟨k0', hk0', -⟩ := hW.alike.2.2 _ _ hk0
    have hrest : ∀ z ∈ ys, px_pass e.platform s f.method.cls f.pc cell.cls z := fun z hz => hpass z (List.mem_cons_of_mem _ hz)
    cases hcov : covers y f.pc with
    | false =>
      obtain ⟨vm', hW', hq⟩ := ih S hW hcell hrest
      refine ⟨vm', hW', fun Q E d acts => ?_⟩
      rw [List.cons_append, W.findHandler_go_skip hcov]
      exact hq Q E d acts
    | true =>
      rcases hpass y List.mem_cons_self with h | ⟨h0y, cy, hly, hno⟩
      · rw [h] at hcov; cases hcov
      · obtain ⟨dk, _, _, kt, hd, _, _, _, _, hkt, _, hopen⟩ := hly.here
        obtain ⟨kt', hkt', -⟩ := hW.alike.2.2 _ _ hkt
        obtain ⟨vm', hW', hq⟩ := ih (S.setVm (S.vm.noted f.method.cls y.catchType (.cls cy))) (hW.noted hd hopen (State.rightAt_cls hly)) hcell hrest
        refine ⟨vm', hW', fun Q E d acts => ?_⟩
        rw [List.cons_append, px_go1 hcov h0y (hW.classLinks hly) hcell hobj ⟨k0', hk0'⟩ ⟨kt', hkt'⟩, if_neg (by rw [hW.alike.assignable, hno]; decide)]
        exact hq Q E d acts
section
variable {p : Program} {l : Launch} {e : Env} {R : Room} {s : State} {m : MethodId} {args : Array Value} {below : List Frame} {meth : Method} {c : Code} {T : State} {locs : List Loc} {cells slots : Nat}
theorem px_caught (X : Stand p l e R s m args below meth c T locs cells slots) (q : Addr) {g : JFrame} (hg : g.method = m) {cell : Cell} (hcell : T.heap[q]? = some cell) (hobj : cell.vm = .none) (hk0 : ∃ k, s.vm.classes[cell.cls]? = some k)
    (pre : List ExceptionTableEntry) (x : ExceptionTableEntry) (rest : List ExceptionTableEntry) (hsplit : c.exceptionTable.toList = pre ++ x :: rest) (hpass : ∀ y ∈ pre, px_pass e.platform s m.cls g.pc cell.cls y) (hx : covers x g.pc = true) (h0 : x.catchType ≠ 0) {cT : ClassId}
    (hl : s.vm.ClassLinks e.platform m.cls x.catchType cT) (hfit : s.vm.assignable cell.cls cT = true) :
    ∃ vm', Stand p l e R s m args below meth c (T.setVm vm') locs cells slots ∧
      ∀ target, Steps p.tables e below ((T.setVm vm').setTop { g with pc := x.handlerPc, stack := [.ref q] }) target → Steps p.tables e below ((T.setTop g).pushFrame (.throwing q)) target := by
  subst hg
  obtain ⟨vm', hW', hq⟩ := px_goN (e := e) (s := s) (f := g) (a := q) (cell := cell) (fun k => by rw [hobj]; intro h; cases h) hk0 x rest hx h0 hl hfit pre ((T.setTop g).pushFrame (.throwing q)) X.warmed hcell hpass
  have hfind : ∀ (Q : Handler → Pre) (E : CtlPost) (d : Bool) (acts : List Action), wp (findHandler g q) Q E e d acts ((T.setTop g).pushFrame (.throwing q)) ↔ Q (.found x.handlerPc) d acts (((T.setTop g).pushFrame (.throwing q)).setVm vm') := by
    intro Q E d acts
    have hm9 : ((T.setTop g).pushFrame (.throwing q)).vm.method? g.method = some meth := X.method'
    rw [W.findHandler_eq hm9 X.code, hsplit]
    exact hq Q E d acts
  refine ⟨vm', X.noted hW', fun target hrest => ?_⟩
  obtain ⟨hgo, hw⟩ := X.here.throwing q
  refine Steps.head hgo hw ?_
  obtain ⟨g₀, hg₀⟩ := Option.isSome_iff_exists.mp X.here.top
  obtain ⟨r, hr⟩ := State.topJava?_eq_some.mp hg₀
  have hr' : (T.setVm vm').frames = .java g₀ :: r := hr
  have hst : (stepThrowing e ((T.setTop g).pushFrame (.throwing q)) q (.java g :: r)).Is ((((T.setTop g).pushFrame (.throwing q)).setVm vm').setFrames (.java { g with pc := x.handlerPc, stack := [.ref q] } :: r)) [] := by
    simp only [stepThrowing, searchFrame, vmDo]
    generalize hres : Sem.go _ e false [] _ = res
    obtain ⟨as, rfl, ha⟩ := Sem.eq_ok_of hres (a := Handler.found x.handlerPc) (s' := ((T.setTop g).pushFrame (.throwing q)).setVm vm') (acts' := []) (by simp [hfind _ _ _ _])
    exact ⟨rfl, ha⟩
  rw [stepThread_throwing (frames_entered X.here.top _), hr, List.tail_cons, hst.1]
  rw [State.setTop_of_frames _ hr'] at hrest
  have hsw : ∀ (u : State) (F : List Frame), (u.setFrames F).setVm vm' = (u.setVm vm').setFrames F := fun _ _ => rfl
  rw [State.pushFrame, State.setTop_of_frames _ hr, hsw, State.setFrames_setFrames, hsw, State.setFrames_setFrames]
  exact hrest
end
