/-! OWN ROWS: a world of fixed cells. u : pS is the state (ints by number, arrays by number); G : pG what never changes (lengths by cell, final ints, fixed arrays). -/
abbrev pS : Type := (Nat → Int32) × (Nat → Nat → Int32)
abbrev pG : Type := (Nat → Nat) × (Nat → Int32) × (Nat → Nat → Int32)
def pw_sa (u : pS) (k : Nat) (f : Nat → Int32) : pS := (u.1, va_up u.2 k f)
def pw_si (u : pS) (k : Nat) (x : Int32) : pS := (va_up u.1 k x, u.2)
/-- which cells a method over the n cells at a may change: those, and what is new -/
def pw_F (n : Nat) (a : Nat → Nat) (sz : Nat) : Nat → Prop := fun q => (∃ k, k < n ∧ q = a k) ∨ sz ≤ q
def pw_I (n : Nat) (a : Nat → Nat) : Prop := ∀ j k, j < n → k < n → a j = a k → j = k
abbrev pw_B (D : va_G) (wd : pS → va_W) (tys : List (ClassId × FieldType)) (u : pS) (t : State) : Prop := va_P D vwCl (wd u) t.heap ∧ va_K D vwCl tys t
abbrev pw_pre (D : va_G) (wd : pS → va_W) (tys : List (ClassId × FieldType)) (sz : Nat) (u : pS) (U : State) : Prop := U.heap.size = sz ∧ va_P D vwCl (wd u) U.heap ∧ va_K D vwCl tys U
abbrev pw_Ev (below : List Frame) (args : Array Value) (s : State) (D : va_G) (wd : pS → va_W) (tys : List (ClassId × FieldType)) (A : Nat → Prop) (Q : pS → Prop) : State → Prop := MQ below (va_Qv (fun u : pS => Q u) (pw_B D wd tys) A) args s 0 0 A
abbrev pw_Ei (below : List Frame) (args : Array Value) (s : State) (D : va_G) (wd : pS → va_W) (tys : List (ClassId × FieldType)) (A : Nat → Prop) (Q : Int32 → pS → Prop) : State → Prop := MQ below (va_Qi (fun (r : Int32) (u : pS) => Q r u) (pw_B D wd tys) A) args s 0 0 A
def pw_C (p : Program) (s : State) (m : MethodId) (args : Array Value) (meth : Method) (c : Code) (cc : ByteArray) (nL : Nat) (own : String) (ret : Option FieldType) (Ts : List Cond) (A : Nat → Prop) : Prop :=
  p.tables.exec = Jvm.exec ∧ c.code = cc ∧ meth.sig.returnType = ret ∧ c.maxLocals = nL ∧ s.vm.findClass own = some m.cls ∧ (∀ w ∈ Ts, w.before args s = true) ∧ meth.locks = false ∧ (∀ q : Nat, s.heap.size ≤ q → A q)
def pw_K (s : State) (D : va_G) (n : Nat) (a : Nat → Nat) (tys : List (ClassId × FieldType)) (A : Nat → Prop) : Prop := va_K D vwCl tys s ∧ pw_I n a ∧ ∀ k, k < n → A (a k)
theorem pw_FA {n : Nat} {a : Nat → Nat} {A : Nat → Prop} {H0 H : Heap} {locs : List Loc} (hS : va_S A H0 H locs) (hF : ∀ k, k < n → A (a k)) (hA : ∀ q : Nat, H0.size ≤ q → A q) : ∀ q : Nat, pw_F n a H.size q → A q := by
  intro q h
  rcases h with ⟨k, hk, rfl⟩ | h
  · exact hF k hk
  · exact hA q (Nat.le_trans hS.1 h)
theorem pw_blind {av : List Value} {D : va_G} {wd : pS → va_W} {tys : List (ClassId × FieldType)} {sz : Nat} {u : pS} : FrameBlind (va_Pc av (pw_pre D wd tys sz u)) := by
  intro a U g mk q
  obtain ⟨q0, q1, qP, qK⟩ := q
  exact ⟨q0, q1, qP, va_K.moved (u := U) (U := U.calling g mk a) (Vm.Alike.refl U.vm) qK⟩
theorem pw_addrs {n : Nat} {a : Nat → Nat} {ws : va_W} {A : Nat → Prop} (he : ws.map (fun q => q.1) = (List.range n).map a) (hI : pw_I n a) (hF : ∀ k, k < n → A (a k)) : va_D A ws := by
  have key : ∀ (k : Nat) (q : Nat × va_E), ws[k]? = some q → k < n ∧ q.1 = a k := by
    intro k q hk
    have h1 : (ws.map (fun q => q.1))[k]? = some q.1 := by rw [List.getElem?_map, hk]; rfl
    rw [he, List.getElem?_map] at h1
    by_cases hkn : k < n
    · rw [List.getElem?_range hkn] at h1
      exact ⟨hkn, (Option.some.inj h1).symm⟩
    · rw [List.getElem?_eq_none (by rw [List.length_range]; omega)] at h1
      cases h1
  refine ⟨fun i j p q hi hj hpq => ?_, fun k q hk => ?_⟩
  · obtain ⟨h1, h2⟩ := key i p hi
    obtain ⟨h3, h4⟩ := key j q hj
    exact hI i j h1 h3 (by rw [← h2, ← h4]; exact hpq)
  · obtain ⟨h1, h2⟩ := key k q hk
    rw [h2]
    exact hF k h1
section
variable {p : Program} {l : Launch} {e : Env} {R : Room} {s : State} {m : MethodId} {args : Array Value} {below : List Frame} {meth : Method} {c : Code} {H : Heap} {locs : List Loc} {cells slots : Nat} {Z : State → Prop}
variable {pc : Nat} {ls : Array Slot} {rest st0 : List Value} {aa : Array Value} {D : va_G} {n : Nat} {a : Nat → Nat} {wd : pS → va_W} {tys : List (ClassId × FieldType)} {A : Nat → Prop}
theorem cc_i {Q : Int32 → pS → Prop} (hr : va_Run p l e R s m args below meth c H locs cells slots 0 0 (F0 m pc ls st0) rest (va_Qi (fun (r : Int32) (u : pS) => Q r u) (pw_B D wd tys) (pw_F n a H.size) aa) (pw_F n a H.size)) (hS : va_S A s.heap H locs) (hF : ∀ k, k < n → A (a k)) (hA : ∀ q : Nat, s.heap.size ≤ q → A q)
    (kk : ∀ (r : Int32) (u : pS) (H : Heap) (locs : List Loc), va_P D vwCl (wd u) H → va_S A s.heap H locs → Q r u → W p l e R s m args below meth c H locs cells slots Z (F0 m (pc + 3) ls (.int r :: rest))) : W p l e R s m args below meth c H locs cells slots Z (F0 m pc ls st0) :=
  va_calli hr hS (fun q _ h => pw_FA hS hF hA q h) (pw_FA hS hF hA) (fun r u t H1 locs1 ht hvm hw hB hz1 hk1 hS1 => kk r u H1 locs1 (by rw [← ht]; exact hB.1) hS1 hw)
theorem cc_v {Q : pS → Prop} (hr : va_Run p l e R s m args below meth c H locs cells slots 0 0 (F0 m pc ls st0) rest (va_Qv (fun u : pS => Q u) (pw_B D wd tys) (pw_F n a H.size) aa) (pw_F n a H.size)) (hS : va_S A s.heap H locs) (hF : ∀ k, k < n → A (a k)) (hA : ∀ q : Nat, s.heap.size ≤ q → A q)
    (kk : ∀ (u : pS) (H : Heap) (locs : List Loc), va_P D vwCl (wd u) H → va_S A s.heap H locs → Q u → W p l e R s m args below meth c H locs cells slots Z (F0 m (pc + 3) ls rest)) : W p l e R s m args below meth c H locs cells slots Z (F0 m pc ls st0) :=
  va_callv hr hS (fun q _ h => pw_FA hS hF hA q h) (pw_FA hS hF hA) (fun u t H1 locs1 ht hvm hw hB hz1 hk1 hS1 => kk u H1 locs1 (by rw [← ht]; exact hB.1) hS1 hw)
end
section
variable {c1 : Cond} {R : Room} {s : State} {args : Array Value} {own C owner : String} {index maxL : Nat} {x y : MethodName} {bytes : ByteArray} {ret : Option FieldType} {rm : Room}
theorem pw_cwS (n : Nat) (hts : ∀ w ∈ c1 :: pw_T, w.before args s = true) (kc : Cond.code y bytes maxL ret ∈ pw_T) (ki : Cond.initialized y.cls ∈ pw_T) (kl : Cond.methodLink own index y ∈ pw_T) (kt : Cond.static y ∈ pw_T)
    (hd : y.cls ≠ "java/lang/invoke/MethodHandle" ∧ y.cls ≠ "java/lang/invoke/VarHandle" ∧ (parseMethodDescriptor y.desc).map (fun d => d.parameters.length) = some n) (hR : rm.frames + 1 ≤ R.frames ∧ 8 + (maxL + 11) + rm.locals ≤ R.locals) :
    CallB R s args own index y bytes maxL ret (Cond.code y bytes maxL ret :: pw_T) rm rm.cells rm.slots n ∧ (Cond.static y).before args s = true :=
  ⟨callB_of n hts (pw_good (pw_all kc)) rfl rfl rfl (hts _ (List.mem_cons_of_mem _ ki)) (hts _ (List.mem_cons_of_mem _ kl)) hd hR, hts _ (List.mem_cons_of_mem _ kt)⟩
theorem pw_cwV (n : Nat) (hts : ∀ w ∈ c1 :: pw_T, w.before args s = true) (kc : Cond.code y bytes maxL ret ∈ pw_T) (ki : Cond.initialized y.cls ∈ pw_T) (kl : Cond.methodLink own index y ∈ pw_T) (kn : Cond.instanceMethod y ∈ pw_T) (ks : Cond.selects C y y ∈ pw_T)
    (hd : y.cls ≠ "java/lang/invoke/MethodHandle" ∧ y.cls ≠ "java/lang/invoke/VarHandle" ∧ (parseMethodDescriptor y.desc).map (fun d => d.parameters.length) = some n) (hR : rm.frames + 1 ≤ R.frames ∧ 8 + (maxL + 11) + rm.locals ≤ R.locals) :
    CallW R s args own C index y bytes maxL ret (Cond.code y bytes maxL ret :: pw_T) rm rm.cells rm.slots n :=
  ⟨callB_of n hts (pw_good (pw_all kc)) rfl rfl rfl (hts _ (List.mem_cons_of_mem _ ki)) (hts _ (List.mem_cons_of_mem _ kl)) hd hR, hts _ (List.mem_cons_of_mem _ kn), hts _ (List.mem_cons_of_mem _ ks)⟩
theorem pw_wsU (kc : Cond.code y bytes maxL ret ∈ pw_T) (ki : Cond.initialized y.cls ∈ pw_T) (kl : Cond.methodLink own index x ∈ pw_T) (km : Cond.sameMethod x.cls owner x.name x.desc ∈ pw_T) (ks : Cond.selects C x y ∈ pw_T) (kn : Cond.instanceMethod y ∈ pw_T) :
    GoodIn (c1 :: pw_T) (va_wsU own index C owner x y (Cond.code y bytes maxL ret :: pw_T)) :=
  pw_good (show ∀ w ∈ ([.methodLink own index x, .sameMethod x.cls owner x.name x.desc, .selects C x y, .instanceMethod y, .initialized y.cls] : List Cond) ++ (Cond.code y bytes maxL ret :: pw_T), w ∈ pw_T from
    List.forall_mem_append.mpr ⟨List.forall_mem_cons.mpr ⟨kl, List.forall_mem_cons.mpr ⟨km, List.forall_mem_cons.mpr ⟨ks, List.forall_mem_cons.mpr ⟨kn, List.forall_mem_cons.mpr ⟨ki, fun _ h => absurd h List.not_mem_nil⟩⟩⟩⟩⟩, pw_all kc⟩)
theorem pw_cwU (n : Nat) (hts : ∀ w ∈ c1 :: pw_T, w.before args s = true) (kc : Cond.code y bytes maxL ret ∈ pw_T) (ki : Cond.initialized y.cls ∈ pw_T) (kl : Cond.methodLink own index x ∈ pw_T) (km : Cond.sameMethod x.cls owner x.name x.desc ∈ pw_T) (ks : Cond.selects C x y ∈ pw_T) (kn : Cond.instanceMethod y ∈ pw_T)
    (hyx : y = ⟨owner, x.name, x.desc⟩) (hd : owner ≠ "java/lang/invoke/MethodHandle" ∧ owner ≠ "java/lang/invoke/VarHandle" ∧ (parseMethodDescriptor x.desc).map (fun d => d.parameters.length) = some n) (hR : rm.frames + 1 ≤ R.frames ∧ 8 + (maxL + 11) + rm.locals ≤ R.locals) :
    va_CU R s args own C owner index x y bytes maxL ret (Cond.code y bytes maxL ret :: pw_T) rm rm.cells rm.slots n := va_cwU n hts (pw_wsU kc ki kl km ks kn) rfl rfl rfl hyx hd hR
theorem pw_cwO (n : Nat) (hts : ∀ w ∈ c1 :: pw_T, w.before args s = true) (kc : Cond.code y bytes maxL ret ∈ pw_T) (ki : Cond.initialized y.cls ∈ pw_T) (kl : Cond.methodLink own index x ∈ pw_T) (km : Cond.sameMethod x.cls owner x.name x.desc ∈ pw_T) (ks : Cond.selects C x y ∈ pw_T) (kn : Cond.instanceMethod y ∈ pw_T)
    (hz : va_Nw (.declares ⟨owner, x.name, x.desc⟩) s) (hd : owner ≠ "java/lang/invoke/MethodHandle" ∧ owner ≠ "java/lang/invoke/VarHandle" ∧ (parseMethodDescriptor x.desc).map (fun d => d.parameters.length) = some n) (hR : rm.frames + 1 ≤ R.frames ∧ 8 + (maxL + 11) + rm.locals ≤ R.locals) :
    va_CU R s args own C owner index x y bytes maxL ret (Cond.code y bytes maxL ret :: pw_T) rm rm.cells rm.slots n := va_cwA n hts (pw_wsU kc ki kl km ks kn) rfl rfl rfl hz hd hR
end
