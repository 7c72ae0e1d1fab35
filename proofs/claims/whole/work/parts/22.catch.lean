/-! The catch by a row of the method's own table, its class resolved or not yet. -/
section HXC
variable {e : Env} {f : JFrame} {a : Addr} {cell : Cell} {s₀ : State}
/-- what the search does with the rows ahead and the row that takes it, from any state whose tables are as warm -/
theorem hx_search (hcv : cell.vm = .none) (hk0 : ∃ k, s₀.vm.classes[cell.cls]? = some k) (x : ExceptionTableEntry) (rest : List ExceptionTableEntry) (hx : covers x f.pc = true) (h0 : x.catchType ≠ 0) {ct : ClassId}
    (hl : s₀.vm.ClassLinks e.platform f.method.cls x.catchType ct) (hfit : s₀.vm.assignable cell.cls ct = true) :
    ∀ (pre : List ExceptionTableEntry) (V : State), s₀.WarmedH V.vm → V.heap[a]? = some cell →
      (∀ y ∈ pre, covers y f.pc = false ∨ (y.catchType ≠ 0 ∧ ∃ c, s₀.vm.ClassLinks e.platform f.method.cls y.catchType c ∧ s₀.vm.assignable cell.cls c = false)) →
      ∃ vm', s₀.WarmedH vm' ∧ ∀ (Q : Handler → Pre) (E : CtlPost) (d : Bool) (acts : List Action), wp (findHandler.go f a (pre ++ x :: rest)) Q E e d acts V ↔ Q (.found x.handlerPc) d acts (V.setVm vm') := by
  obtain ⟨k0, hk0⟩ := hk0
  have hobj : ∀ k, cell.vm ≠ .statics k := fun k h => by rw [hcv] at h; cases h
  -- one row whose class links: resolved now if it wasn't
  have row : ∀ (V : State) (y : ExceptionTableEntry) (c : ClassId), s₀.WarmedH V.vm → V.heap[a]? = some cell → covers y f.pc = true → y.catchType ≠ 0 → s₀.vm.ClassLinks e.platform f.method.cls y.catchType c →
      ∃ vm', s₀.WarmedH vm' ∧ ∀ (t : List ExceptionTableEntry) (Q : Handler → Pre) (E : CtlPost) (d : Bool) (acts : List Action),
        wp (findHandler.go f a (y :: t)) Q E e d acts V ↔ (if s₀.vm.assignable cell.cls c = true then Q (.found y.handlerPc) d acts (V.setVm vm') else wp (findHandler.go f a t) Q E e d acts (V.setVm vm')) := by
    intro V y c hW hcell hy hy0 hlk
    have hlk' := hW.classLinks hlk
    obtain ⟨dk, _, _, kt, hd, _, _, _, _, hkt, _, hopen⟩ := hlk.here
    refine ⟨_, hW.noted hd hopen (State.rightAt_cls hlk), fun t Q E d acts => ?_⟩
    simp only [covers] at hy
    obtain ⟨ha, ht⟩ := (resolveClass_links e.toSetting hlk').op (op := VmOp.resolveClass f.method.cls y.catchType) rfl
    have hal : s₀.vm.Alike (V.vm.noted f.method.cls y.catchType (.cls c)) := hW.alike.trans ((Vm.Alike.refl V.vm).noted _ _ _)
    obtain ⟨k1', hk1', -⟩ := hal.2.2 _ _ hk0
    obtain ⟨k2', hk2', -⟩ := hal.2.2 _ _ hkt
    have hasg : (V.vm.noted f.method.cls y.catchType (.cls c)).assignable cell.cls c = s₀.vm.assignable cell.cls c := hal.assignable _ _
    by_cases hq : s₀.vm.assignable cell.cls c = true
    · rw [if_pos hq]
      rw [hq] at hasg
      simp [findHandler.go, hy, hy0, ha, ht, hcell, hobj, hk1', hk2', hasg, VmOp.dirties, VmOp.acts]
    · rw [if_neg hq]
      rw [Bool.not_eq_true] at hq
      rw [hq] at hasg
      simp [findHandler.go, hy, hy0, ha, ht, hcell, hobj, hk1', hk2', hasg, VmOp.dirties, VmOp.acts]
  intro pre
  induction pre with
  | nil =>
    intro V hW hcell _
    obtain ⟨vm', h1, h2⟩ := row V x ct hW hcell hx h0 hl
    exact ⟨vm', h1, fun Q E d acts => by rw [List.nil_append, h2, if_pos hfit]⟩
  | cons y ys ih =>
    intro V hW hcell hp
    have hp' := fun z hz => hp z (List.mem_cons_of_mem _ hz)
    rcases hp y List.mem_cons_self with hs | ⟨hy0, c, hlk, hno⟩
    · obtain ⟨vm', h1, h2⟩ := ih V hW hcell hp'
      exact ⟨vm', h1, fun Q E d acts => by rw [List.cons_append, W.findHandler_go_skip hs]; exact h2 Q E d acts⟩
    · by_cases hcov : covers y f.pc = true
      · obtain ⟨vm1, h1, h2⟩ := row V y c hW hcell hcov hy0 hlk
        obtain ⟨vm', h3, h4⟩ := ih (V.setVm vm1) h1 hcell hp'
        exact ⟨vm', h3, fun Q E d acts => by rw [List.cons_append, h2, if_neg (by rw [hno]; decide)]; exact h4 Q E d acts⟩
      · obtain ⟨vm', h1, h2⟩ := ih V hW hcell hp'
        exact ⟨vm', h1, fun Q E d acts => by rw [List.cons_append, W.findHandler_go_skip (by simpa using hcov)]; exact h2 Q E d acts⟩
end HXC
section HXD
variable {p : Program} {l : Launch} {e : Env} {R : Room} {s : State} {m : MethodId} {args : Array Value} {below : List Frame} {meth : Method} {c : Code} {H : Heap} {locs : List Loc} {cells slots : Nat} {Q : State → Prop}
variable {cc : ByteArray} {pc : Nat} {ls : Array Slot} {rest : List Value}
theorem hx_caught {T : State} (X : Stand p l e R s m args below meth c T locs cells slots) (a : Addr) {g : JFrame} (hg : g.method = m) {cell : Cell} (hcell : T.heap[a]? = some cell) (hcv : cell.vm = .none) (hk0 : ∃ k, s.vm.classes[cell.cls]? = some k)
    (pre : List ExceptionTableEntry) (x : ExceptionTableEntry) (suf : List ExceptionTableEntry) (hsplit : c.exceptionTable.toList = pre ++ x :: suf)
    (hpass : ∀ y ∈ pre, covers y g.pc = false ∨ (y.catchType ≠ 0 ∧ ∃ c', s.vm.ClassLinks e.platform m.cls y.catchType c' ∧ s.vm.assignable cell.cls c' = false)) (hx : covers x g.pc = true) (h0 : x.catchType ≠ 0) {ct : ClassId}
    (hl : s.vm.ClassLinks e.platform m.cls x.catchType ct) (hfit : s.vm.assignable cell.cls ct = true) :
    ∃ vm', Stand p l e R s m args below meth c (T.setVm vm') locs cells slots ∧
      ∀ target, Steps p.tables e below ((T.setVm vm').setTop { g with pc := x.handlerPc, stack := [.ref a] }) target → Steps p.tables e below ((T.setTop g).pushFrame (.throwing a)) target := by
  subst hg
  obtain ⟨vm', hW', hq⟩ := hx_search (e := e) (f := g) (a := a) (s₀ := s) hcv hk0 x suf hx h0 hl hfit pre ((T.setTop g).pushFrame (.throwing a)) X.warmed hcell hpass
  refine ⟨vm', X.noted hW', fun target hrest => ?_⟩
  obtain ⟨hgo, hw⟩ := X.here.throwing a
  refine Steps.head hgo hw ?_
  have hfind : ∀ (Q : Handler → Pre) (E : CtlPost) (d : Bool) (acts : List Action), wp (findHandler g a) Q E e d acts ((T.setTop g).pushFrame (.throwing a)) ↔ Q (.found x.handlerPc) d acts (((T.setTop g).pushFrame (.throwing a)).setVm vm') := fun Q E d acts => by
    rw [W.findHandler_eq (s := (T.setTop g).pushFrame (.throwing a)) (meth := meth) (code := c) X.method' X.code, hsplit]
    exact hq Q E d acts
  have hstep : ∀ r : List Frame, (stepThrowing e ((T.setTop g).pushFrame (.throwing a)) a (.java g :: r)).Is ((((T.setTop g).pushFrame (.throwing a)).setVm vm').setFrames (.java { g with pc := x.handlerPc, stack := [.ref a] } :: r)) [] := by
    intro r
    simp only [stepThrowing, searchFrame, vmDo]
    generalize hr : Sem.go _ e false [] ((T.setTop g).pushFrame (.throwing a)) = res
    obtain ⟨as, rfl, ha⟩ := Sem.eq_ok_of hr (a := Handler.found x.handlerPc) (s' := ((T.setTop g).pushFrame (.throwing a)).setVm vm') (acts' := []) (by simp [hfind _ _ _ _])
    exact ⟨rfl, ha⟩
  rw [stepThread_throwing (frames_entered X.here.top _), (hstep _).1]
  obtain ⟨g₀, hg⟩ := Option.isSome_iff_exists.mp X.here.top
  obtain ⟨r, hr⟩ := State.topJava?_eq_some.mp hg
  have hr' : (T.setVm vm').frames = .java g₀ :: r := hr
  have hre : ∀ (u : State) (F G : List Frame), ((u.setFrames F).setVm vm').setFrames G = (u.setVm vm').setFrames G := fun u F G => by
    have h1 : (u.setFrames F).setVm vm' = (u.setVm vm').setFrames F := rfl
    rw [h1, State.setFrames_setFrames]
  rw [State.setTop_of_frames _ hr'] at hrest
  rw [hr, List.tail_cons, State.pushFrame, hre, State.setTop_of_frames _ hr, hre]
  exact hrest
/-- the call throws, and this method's table takes it -/
theorem hx_catch {E own name : String} {st0 : List Value} (hr : hx_Run p l e R s m args below meth c H locs cells slots (F0 m pc ls st0) rest E) (hown : s.vm.findClass own = some m.cls)
    (pre : List ExceptionTableEntry) (x : ExceptionTableEntry) (suf : List ExceptionTableEntry) (hsplit : c.exceptionTable.toList = pre ++ x :: suf)
    (hpass : ∀ z ∈ pre, covers z pc = false ∨ (z.catchType ≠ 0 ∧ ∃ nm : String, (Cond.classLink own z.catchType nm).before args s = true ∧ va_Nc E nm s)) (hx : covers x pc = true) (h0 : x.catchType ≠ 0)
    (hlink : (Cond.classLink own x.catchType name).before args s = true) (hcast : (Cond.castable E name).before args s = true)
    (kk : ∀ (q : Nat) (H1 : Heap), H.size ≤ H1.size → (∀ a : Nat, a < H.size → H1[a]? = H[a]?) → W p l e R s m args below meth c H1 locs (cells + 1) (slots + 6) Q (F0 m x.handlerPc ls [.ref q])) : W p l e R s m args below meth c H locs cells slots Q (F0 m pc ls st0) := by
  intro T hT X
  obtain ⟨q, T', ce, X', h1, h2, h3, h4, h5, hst⟩ := hr T hT X
  have hpl : e.platform.magicAccessors = ({} : Platform).magicAccessors := by rw [X.admits.platform]
  obtain ⟨c3, c4, hc3, hc4, hasg⟩ := Cond.castable_spec hcast
  cases Option.some.inj (hc3.symm.trans h5)
  obtain ⟨c5, hc5, hcl5⟩ := Cond.classLink_spec hown hlink e.platform hpl
  cases Option.some.inj (hc4.symm.trans hc5)
  obtain ⟨vm', XV, st⟩ := hx_caught X' q (g := F0 m pc ls rest) rfl h3 h4 (by obtain ⟨k9, h9, -⟩ := Vm.findClass_spec h5; exact ⟨k9, h9⟩) pre x suf hsplit
    (fun z hz => by
      rcases hpass z hz with h | ⟨hz0, nm, hl1, hn1⟩
      · exact Or.inl h
      · obtain ⟨c6, hc6, hcl6⟩ := Cond.classLink_spec hown hl1 e.platform hpl
        obtain ⟨a8, b8, k1, k2, k3⟩ := hn1
        cases Option.some.inj (k1.symm.trans h5)
        cases Option.some.inj (k2.symm.trans hc6)
        exact Or.inr ⟨hz0, _, hcl6, k3⟩) hx h0 hcl5 hasg
  obtain ⟨t, a1, b1⟩ := kk q (T'.setVm vm').heap h1 h2 (T'.setVm vm') rfl XV
  exact ⟨t, hst.trans (st t a1), b1⟩
end HXD
