/-! THE CATCH: a callee's throw comes to a handler of the caller; the handler's class may be looked up there for the first time. -/
theorem kGoCold {E : CtlPost} {e : Env} {d : Bool} {acts : List Action} {s : State} {f : JFrame} {a : Addr} {Q : Handler → Pre} {x : ExceptionTableEntry} {t : List ExceptionTableEntry} {c : ClassId} {vm' : Vm} (hx : covers x f.pc = true) (h0 : x.catchType ≠ 0)
    (hg : (Jvm.resolveClass f.method.cls x.catchType).Gives e.toSetting s.vm (.ok c) vm') (hr : vm'.classReady f.method.cls x.catchType c) (hsz : vm'.classes.size ≤ s.vm.classes.size) :
    wp (findHandler.go f a (x :: t)) Q E e d acts s ↔ wp (findHandler.go f a (x :: t)) Q E e d acts (s.setVm vm') := by
  obtain ⟨ha, ht⟩ := hg.op (op := VmOp.resolveClass f.method.cls x.catchType) rfl
  obtain ⟨k, hkd, hres⟩ := hr
  simp only [covers] at hx
  simp [findHandler.go, hx, h0, ha, ht, hsz, resolveClass_memo e hkd hres, VmOp.dirties, VmOp.acts]
  exact Iff.rfl
def FindsC (e : Env) (s : State) (f : JFrame) (a : Addr) (h : Handler) (vm' : Vm) : Prop :=
  ∀ (Q : Handler → Pre) (E : CtlPost) (d : Bool) (acts : List Action), wp (findHandler f a) Q E e d acts s ↔ Q h d acts (s.setVm vm')
theorem kCatchStep {e : Env} {s : State} {a : Addr} {f : JFrame} {r : List Frame} {pc : Nat} {vm' : Vm} (hfind : FindsC e s f a (.found pc) vm') :
    (stepThrowing e s a (.java f :: r)).Is ((s.setVm vm').setFrames (.java { f with pc := pc, stack := [.ref a] } :: r)) [] := by
  simp only [stepThrowing, searchFrame, vmDo]
  generalize hr : Sem.go _ e false [] s = res
  obtain ⟨as, rfl, ha⟩ := Sem.eq_ok_of hr (a := Handler.found pc) (s' := s.setVm vm') (acts' := []) (by simp [hfind _ _ _ _])
  exact ⟨rfl, ha⟩
section KCA
variable {p : Program} {l : Launch} {e : Env} {R : Room} {s : State} {m : MethodId} {args : Array Value} {below : List Frame} {meth : Method} {c : Code} {T : State} {locs : List Loc} {cells slots : Nat}
theorem kCaught (X : Stand p l e R s m args below meth c T locs cells slots) (a : Addr) {g : JFrame} (hg : g.method = m) {pc : Nat} {vm' : Vm}
    (hfind : FindsC e ((T.setTop g).pushFrame (.throwing a)) g a (.found pc) vm') {target : State}
    (hrest : Steps p.tables e below ((T.setVm vm').setTop { g with pc := pc, stack := [.ref a] }) target) :
    Steps p.tables e below ((T.setTop g).pushFrame (.throwing a)) target := by
  have h : At T g.method c below := by rw [hg]; exact X.here
  obtain ⟨hgo, hw⟩ := h.throwing a
  refine Steps.head hgo hw ?_
  rw [stepThread_throwing (frames_entered h.top _), (kCatchStep (s := (T.setTop g).pushFrame (.throwing a)) hfind).1]
  obtain ⟨g₀, hg0⟩ := Option.isSome_iff_exists.mp h.top
  obtain ⟨r, hr⟩ := State.topJava?_eq_some.mp hg0
  have hr' : (T.setVm vm').frames = .java g₀ :: r := hr
  rw [State.setTop_of_frames _ hr'] at hrest
  have e1 : ∀ F : List Frame, (T.setFrames F).setVm vm' = (T.setVm vm').setFrames F := fun _ => rfl
  rw [State.pushFrame, State.setTop_of_frames _ hr, State.setFrames_setFrames, e1, State.setFrames_setFrames, hr]
  exact hrest
/-- the facts of one covering entry: its class is looked up, warm or cold -/
theorem kEntry (X : Stand p l e R s m args below meth c T locs cells slots) {own nm : String} {ix : Nat} (hown : s.vm.findClass own = some m.cls) (hcl : (Cond.classLink own ix nm).before args s = true) {vm0 : Vm} (hW0 : s.WarmedH vm0) :
    ∃ (cC : ClassId) (vm' : Vm), s.vm.findClass nm = some cC ∧ (Jvm.resolveClass m.cls ix).Gives e.toSetting vm0 (.ok cC) vm' ∧ s.WarmedH vm' ∧ vm'.classReady m.cls ix cC ∧ vm'.classes.size ≤ vm0.classes.size := by
  have hpl : e.platform.magicAccessors = ({} : Platform).magicAccessors := by rw [X.admits.platform]
  obtain ⟨cC, hfc, hl⟩ := Cond.classLink_spec hown hcl e.platform hpl
  obtain ⟨hg₁, hwarm₁, hready₁⟩ := State.classEntry (e := e) hW0 hl
  refine ⟨cC, _, hfc, hg₁, hwarm₁, hready₁, ?_⟩
  generalize vm0.noted m.cls ix (.cls cC) = vm₁ at hg₁ hwarm₁ hready₁
  no_record
theorem kFind1 (X : Stand p l e R s m args below meth c T locs cells slots) {own n1 cn : String} (hown : s.vm.findClass own = some m.cls) {g : JFrame} (hg : g.method = m) {a : Addr} {ce : Cell} (hce : T.heap[a]? = some ce) (hvm : ce.vm = .none) (hcn : s.vm.findClass cn = some ce.cls)
    {x : ExceptionTableEntry} {rest : List ExceptionTableEntry} (hl : c.exceptionTable.toList = x :: rest) (hx : covers x g.pc = true) (h0 : x.catchType ≠ 0) (hcl : (Cond.classLink own x.catchType n1).before args s = true) (hca : (Cond.castable cn n1).before args s = true) :
    ∃ vm' : Vm, s.WarmedH vm' ∧ FindsC e ((T.setTop g).pushFrame (.throwing a)) g a (.found x.handlerPc) vm' := by
  subst hg
  obtain ⟨c1, vm1, f1, g1, w1, r1, z1⟩ := kEntry (e := e) X hown hcl X.warmed
  obtain ⟨ca, cb, q1, q2, q3⟩ := Cond.castable_spec hca
  cases hcn.symm.trans q1
  cases f1.symm.trans q2
  refine ⟨vm1, w1, fun Q E d acts => ?_⟩
  have hv : ((T.setTop g).pushFrame (.throwing a)).vm = T.vm := Stand.throwing_vm T g a
  have hh : ((T.setTop g).pushFrame (.throwing a)).heap = T.heap := Stand.throwing_heap T g a
  obtain ⟨ka, hka, -⟩ := w1.alike.2.2 _ _ (Vm.classAt_of_findClass hcn).choose_spec
  obtain ⟨kb, hkb, -⟩ := w1.alike.2.2 _ _ (Vm.classAt_of_findClass f1).choose_spec
  rw [W.findHandler_eq (meth := meth) (code := c) (by rw [hv]; exact X.method') X.code, hl, kGoCold hx h0 (by rw [hv]; exact g1) r1 (by rw [hv]; exact z1),
    W.findHandler_go_class (s := ((T.setTop g).pushFrame (.throwing a)).setVm vm1) hx h0 r1 (show (((T.setTop g).pushFrame (.throwing a)).setVm vm1).heap[a]? = some ce by show ((T.setTop g).pushFrame (.throwing a)).heap[a]? = some ce; rw [hh]; exact hce) (fun k hk => by rw [hvm] at hk; cases hk) ⟨ka, hka⟩ ⟨kb, hkb⟩, if_pos (show (((T.setTop g).pushFrame (.throwing a)).setVm vm1).vm.assignable ce.cls c1 = true by show vm1.assignable ce.cls c1 = true; rw [w1.alike.assignable]; exact q3)]
theorem kFind2 (X : Stand p l e R s m args below meth c T locs cells slots) {own n1 n2 cn : String} (hown : s.vm.findClass own = some m.cls) {g : JFrame} (hg : g.method = m) {a : Addr} {ce : Cell} (hce : T.heap[a]? = some ce) (hvm : ce.vm = .none) (hcn : s.vm.findClass cn = some ce.cls)
    {x y : ExceptionTableEntry} {rest : List ExceptionTableEntry} (hl : c.exceptionTable.toList = x :: y :: rest) (hx : covers x g.pc = true) (h0 : x.catchType ≠ 0) (hcl : (Cond.classLink own x.catchType n1).before args s = true) (hno : va_Nc cn n1 s)
    (hy : covers y g.pc = true) (hy0 : y.catchType ≠ 0) (hcl2 : (Cond.classLink own y.catchType n2).before args s = true) (hca : (Cond.castable cn n2).before args s = true) :
    ∃ vm' : Vm, s.WarmedH vm' ∧ FindsC e ((T.setTop g).pushFrame (.throwing a)) g a (.found y.handlerPc) vm' := by
  subst hg
  obtain ⟨c1, vm1, f1, g1, w1, r1, z1⟩ := kEntry (e := e) X hown hcl X.warmed
  obtain ⟨c2, vm2, f2, g2, w2, r2, z2⟩ := kEntry (e := e) X hown hcl2 w1
  obtain ⟨ca, cb, q1, q2, q3⟩ := Cond.castable_spec hca
  cases hcn.symm.trans q1
  cases f2.symm.trans q2
  obtain ⟨na, nb, p1, p2, p3⟩ := hno
  cases hcn.symm.trans p1
  cases f1.symm.trans p2
  refine ⟨vm2, w2, fun Q E d acts => ?_⟩
  have hv : ((T.setTop g).pushFrame (.throwing a)).vm = T.vm := Stand.throwing_vm T g a
  have hh : ((T.setTop g).pushFrame (.throwing a)).heap = T.heap := Stand.throwing_heap T g a
  obtain ⟨ka, hka, -⟩ := w1.alike.2.2 _ _ (Vm.classAt_of_findClass hcn).choose_spec
  obtain ⟨kb, hkb, -⟩ := w1.alike.2.2 _ _ (Vm.classAt_of_findClass f1).choose_spec
  obtain ⟨ka2, hka2, -⟩ := w2.alike.2.2 _ _ (Vm.classAt_of_findClass hcn).choose_spec
  obtain ⟨kb2, hkb2, -⟩ := w2.alike.2.2 _ _ (Vm.classAt_of_findClass f2).choose_spec
  have hc1 : (((T.setTop g).pushFrame (.throwing a)).setVm vm1).heap[a]? = some ce := by show ((T.setTop g).pushFrame (.throwing a)).heap[a]? = some ce; rw [hh]; exact hce
  have hc2 : ((((T.setTop g).pushFrame (.throwing a)).setVm vm1).setVm vm2).heap[a]? = some ce := by show ((T.setTop g).pushFrame (.throwing a)).heap[a]? = some ce; rw [hh]; exact hce
  rw [W.findHandler_eq (meth := meth) (code := c) (by rw [hv]; exact X.method') X.code, hl, kGoCold hx h0 (by rw [hv]; exact g1) r1 (by rw [hv]; exact z1),
    W.findHandler_go_class (s := ((T.setTop g).pushFrame (.throwing a)).setVm vm1) hx h0 r1 hc1 (fun k hk => by rw [hvm] at hk; cases hk) ⟨ka, hka⟩ ⟨kb, hkb⟩, if_neg (show ¬ (((T.setTop g).pushFrame (.throwing a)).setVm vm1).vm.assignable ce.cls c1 = true by show ¬ vm1.assignable ce.cls c1 = true; rw [w1.alike.assignable, p3]; decide),
    kGoCold (s := ((T.setTop g).pushFrame (.throwing a)).setVm vm1) hy hy0 g2 r2 z2,
    W.findHandler_go_class (s := (((T.setTop g).pushFrame (.throwing a)).setVm vm1).setVm vm2) hy hy0 r2 hc2 (fun k hk => by rw [hvm] at hk; cases hk) ⟨ka2, hka2⟩ ⟨kb2, hkb2⟩, if_pos (show ((((T.setTop g).pushFrame (.throwing a)).setVm vm1).setVm vm2).vm.assignable ce.cls c2 = true by show vm2.assignable ce.cls c2 = true; rw [w2.alike.assignable]; exact q3)]
  rfl
end KCA
