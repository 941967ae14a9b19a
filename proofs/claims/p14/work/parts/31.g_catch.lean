/-! a call that throws, caught in the calling method: the search through its table, each catch type cold or warm -/
/-- the search comes to the handler hp: each row ahead of it doesn't cover the pc, or names a class that isn't the thrown one's -/
def zq_hit (pl : Platform) (s0 : State) (d : ClassId) (pc : Nat) (th : ClassId) (hp : Nat) : List ExceptionTableEntry → Prop
  | [] => False
  | r :: t => (covers r pc = false ∧ zq_hit pl s0 d pc th hp t) ∨ (covers r pc = true ∧ r.catchType ≠ 0 ∧ ∃ c, s0.vm.ClassLinks pl d r.catchType c ∧ ((s0.vm.assignable th c = true ∧ r.handlerPc = hp) ∨ (s0.vm.assignable th c = false ∧ zq_hit pl s0 d pc th hp t)))
theorem zq_find {e : Env} {s0 : State} {f : JFrame} {a : Addr} {cell : Cell} {hp : Nat} (hobj : ∀ k, cell.vm ≠ .statics k) (hk0 : ∃ k, s0.vm.classes[cell.cls]? = some k) :
    ∀ (L : List ExceptionTableEntry) (S : State), s0.WarmedH S.vm → S.heap[a]? = some cell → zq_hit e.platform s0 f.method.cls f.pc cell.cls hp L →
      ∃ vm', s0.WarmedH vm' ∧ ∀ (Q : Handler → Pre) (E : CtlPost) (d : Bool) (acts : List Action), wp (findHandler.go f a L) Q E e d acts S ↔ Q (.found hp) d acts (S.setVm vm') := by
  intro L
  induction L with
  | nil => intro S _ _ h; exact h.elim
  | cons r t ih =>
    intro S hW hcell h
    rcases h with ⟨hn, h⟩ | ⟨hx, h0, c, hl, h⟩
    · obtain ⟨vm', hW', hq⟩ := ih S hW hcell h
      exact ⟨vm', hW', fun Q E d acts => by rw [W.findHandler_go_skip hn]; exact hq Q E d acts⟩
    · obtain ⟨k0, hk0⟩ := hk0
      obtain ⟨dk, _, _, kt, hd, _, _, _, _, hkt, _, hopen⟩ := hl.here
      have hW2 := hW.noted hd hopen (State.rightAt_cls hl)
      obtain ⟨g1, g2⟩ := (resolveClass_links e.toSetting (hW.classLinks hl)).op (op := VmOp.resolveClass f.method.cls r.catchType) rfl
      obtain ⟨k1, hk1, -⟩ := hW2.alike.2.2 _ _ hk0
      obtain ⟨k2, hk2, -⟩ := hW2.alike.2.2 _ _ hkt
      have has : (S.vm.noted f.method.cls r.catchType (.cls c)).assignable cell.cls c = s0.vm.assignable cell.cls c := by rw [hW2.alike.assignable]
      have hx' : (decide (r.startPc ≤ f.pc) && decide (f.pc < r.endPc)) = true := hx
      rcases h with ⟨hy, rfl⟩ | ⟨hno, h⟩
      · rw [hy] at has
        exact ⟨_, hW2, fun Q E d acts => by simp [findHandler.go, hx', h0, g1, g2, hcell, hobj, hk1, hk2, has, VmOp.dirties, VmOp.acts]⟩
      · rw [hno] at has
        obtain ⟨vm', hW', hq⟩ := ih (S.setVm (S.vm.noted f.method.cls r.catchType (.cls c))) hW2 hcell h
        refine ⟨vm', hW', fun Q E d acts => ?_⟩
        have key : wp (findHandler.go f a (r :: t)) Q E e d acts S ↔ wp (findHandler.go f a t) Q E e d acts (S.setVm (S.vm.noted f.method.cls r.catchType (.cls c))) := by
          simp [findHandler.go, hx', h0, g1, g2, hcell, hobj, hk1, hk2, has, VmOp.dirties, VmOp.acts]
        rw [key]
        exact hq Q E d acts
theorem zq_caught {p : Program} {l : Launch} {e : Env} {R : Room} {s : State} {m : MethodId} {args : Array Value} {below : List Frame} {meth : Method} {c : Code} {T : State} {locs : List Loc} {cells slots : Nat} (X : Stand p l e R s m args below meth c T locs cells slots) {a : Addr} {g : JFrame} (hg : g.method = m) {cell : Cell} (hcell : T.heap[a]? = some cell) (hobj : cell.vm.isStatics = false) (hk0 : ∃ k, s.vm.classes[cell.cls]? = some k) {hp : Nat}
    (hh : zq_hit e.platform s m.cls g.pc cell.cls hp c.exceptionTable.toList) :
    ∃ vm', Stand p l e R s m args below meth c (T.setVm vm') locs cells slots ∧
      ∀ target, Steps p.tables e below ((T.setVm vm').setTop { g with pc := hp, stack := [.ref a] }) target → Steps p.tables e below (T.setFrames (.throwing a :: .java g :: below)) target := by
  subst hg
  obtain ⟨vm', hW', hq⟩ := zq_find (e := e) (s0 := s) (f := g) (a := a) (VmData.ne_statics_of hobj) hk0 c.exceptionTable.toList ((T.setTop g).pushFrame (.throwing a)) (by rw [Stand.throwing_vm]; exact X.warmed) (by rw [Stand.throwing_heap]; exact hcell) hh
  have hf : ∀ (Q : Handler → Pre) (E : CtlPost) (d : Bool) (acts : List Action), wp (findHandler g a) Q E e d acts ((T.setTop g).pushFrame (.throwing a)) ↔ Q (.found hp) d acts (((T.setTop g).pushFrame (.throwing a)).setVm vm') := fun Q E d acts => by
    rw [W.findHandler_eq (meth := meth) (code := c) (by rw [Stand.throwing_vm]; exact X.method') X.code]
    exact hq Q E d acts
  refine ⟨vm', X.noted hW', fun target hrest => ?_⟩
  obtain ⟨g₀, hfr⟩ := X.frames_eq
  have hU : (T.setTop g).pushFrame (.throwing a) = T.setFrames (.throwing a :: .java g :: below) := by
    rw [State.pushFrame, State.frames_setTop _ hfr, State.setTop_of_frames _ hfr, State.setFrames_setFrames]
  rw [← hU]
  obtain ⟨hgo, hw⟩ := X.here.throwing (g := g) a
  refine Steps.head hgo hw ?_
  have hstep : (stepThrowing e ((T.setTop g).pushFrame (.throwing a)) a (.java g :: below)).Is ((((T.setTop g).pushFrame (.throwing a)).setVm vm').setFrames (.java { g with pc := hp, stack := [.ref a] } :: below)) [] := by
    simp only [stepThrowing, searchFrame, vmDo]
    generalize hr : Sem.go _ e false [] ((T.setTop g).pushFrame (.throwing a)) = res
    obtain ⟨as, rfl, ha⟩ := Sem.eq_ok_of hr (a := Handler.found hp) (s' := ((T.setTop g).pushFrame (.throwing a)).setVm vm') (acts' := []) (by simp [hf _ _ _ _])
    exact ⟨rfl, ha⟩
  rw [stepThread_throwing (below := .java g :: below) (by rw [frames_entered X.here.top, X.tail]), hstep.1, hU]
  have e1 : ((T.setFrames (.throwing a :: .java g :: below)).setVm vm').setFrames (.java { g with pc := hp, stack := [.ref a] } :: below) = (T.setVm vm').setTop { g with pc := hp, stack := [.ref a] } := by
    have hr' : (T.setVm vm').frames = .java g₀ :: below := hfr
    rw [State.setTop_of_frames _ hr']
    have h1 : (T.setFrames (.throwing a :: .java g :: below)).setVm vm' = (T.setVm vm').setFrames (.throwing a :: .java g :: below) := rfl
    rw [h1, State.setFrames_setFrames]
  rw [e1]
  exact hrest
