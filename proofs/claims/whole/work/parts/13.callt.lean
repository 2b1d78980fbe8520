section KCT
variable {p : Program} {l : Launch} {e : Env} {R : Room} {s : State} {m : MethodId} {args : Array Value} {below : List Frame} {meth : Method} {c : Code} {H : Heap} {locs : List Loc} {cells slots : Nat} {Q : State → Prop}
variable {y : MethodName} {bytes cc : ByteArray} {maxL nL mc ms n index pc : Nat} {ret : Option FieldType} {ws Ts : List Cond} {rm : Room} {Pc : Array Value → State → Prop} {Qc : Array Value → State → Outcome → State → Prop} {own C : String} {b : Addr} {As rest st : List Value} {ls : Array Slot}
/-- a call of a method that throws -/
theorem kCallT {T : State} (X : Stand p l e R s m args below meth c T locs cells slots) (hexec : p.tables.exec = Jvm.exec) (hM : MetT l y ws rm Pc Qc mc ms) (hblind : FrameBlind Pc) (hown : s.vm.findClass own = some m.cls)
    (cw : CallW R s args own C index y bytes maxL ret ws rm mc ms n) {cellB : Cell} (hcell : T.heap[b]? = some cellB) (hobj : cellB.vm.isStatics = false) (hcls : s.vm.findClass C = some cellB.cls)
    {g : JFrame} (hg : g.method = m) (hsize : g.locals.size = c.maxLocals) (hn : As.length = n) (hstack : g.stack = As.reverse ++ .ref b :: rest) (hW : 2 * g.monitorRoom + (rest.map fun v => v.category).sum ≤ 8) (hdg : decode c.code g.pc = .ok (.invokevirtual index, 3))
    (hf : cells + mc ≤ R.cells ∧ slots + ms ≤ R.slots) (hPc : ∀ U : State, U.heap = T.heap → s.WarmedH U.vm → Pc (Value.ref b :: As).toArray U) :
    ∃ (x : Addr) (st₀ t T' : State), st₀.heap = T.heap ∧ s.vm.Alike st₀.vm ∧ Stand p l e R s m args below meth c T' locs (cells + mc) (slots + ms) ∧ T'.heap = t.heap ∧ Qc (Value.ref b :: As).toArray st₀ (.threw x) t ∧
      ∀ target, Steps p.tables e below ((T'.setTop { g with stack := rest }).pushFrame (.throwing x)) target → Steps p.tables e below (T.setTop g) target := by
  obtain ⟨⟨hrc, hrs, hfr, hlo, hws, hcw, hcode, hini, hy, hlen, hlink⟩, hinst, hsel⟩ := cw
  obtain ⟨mk, methM, hnamed, hmethM, hstM, habM⟩ := Cond.instanceMethod_spec hinst
  obtain ⟨methM', cM, hmethM', -, -, -, -, -, -, hsigM⟩ := Cond.code_spec hnamed hcode
  cases hmethM.symm.trans hmethM'
  obtain ⟨c2, r2, m2, q1, q2, q3, q4, kP, hkP, hkPi⟩ := Cond.selects_spec hsel
  cases hcls.symm.trans q1
  cases (State.methodFound?_of_named hnamed hy).symm.trans q2
  cases hnamed.symm.trans q3
  have hselP : selectMethod e.platform s.vm cellB.cls mk = .method mk := by rw [Launch.admits_selectMethod X.admits]; exact q4
  obtain ⟨vm₁, X₁, hstep₁⟩ := X.invokevirtual hexec hown hlink hnamed hmethM hstM hkP hkPi hy (a := b) (cell := cellB) hcell
    (fun z h => by rw [h] at hobj; cases hobj) hselP hmethM habM hkP hkPi (g := g) hg (argsL := As) (rest := rest) (hn.trans (hlen _ hsigM)) hstack hdg
  have hWv : s.WarmedH (T.setVm vm₁).vm := X₁.warmed
  have hnm : (T.setVm vm₁).methodNamed? y = some mk := X₁.named hnamed
  have p1 : (headSpec ws rm).pre.before (Value.ref b :: As).toArray (T.setVm vm₁) = true := atoms_intro fun w hw => hws w hw _ _ hWv
  have p2 : (Cond.code y bytes maxL ret).before (Value.ref b :: As).toArray (T.setVm vm₁) = true := hws _ hcw _ _ hWv
  have p3 : (Cond.initialized y.cls).before (Value.ref b :: As).toArray (T.setVm vm₁) = true := word_at hWv (Or.inl (by first | rfl | simp [Cond.onTables, Cond.keeps, Cond.steady])) hini
  obtain ⟨methY, cY, hmY, hcY, -, hlY, -, -, -, -⟩ := Cond.code_spec hnm p2
  obtain ⟨kY, hkY, -⟩ := className_of_methodNamed hnm
  have hinitY : kY.init = .initialized := Cond.initialized_spec (findClass_of_methodNamed hnm) hkY p3
  have h1 : At (T.setVm vm₁) ({ g with stack := rest } : JFrame).method c below := by show At (T.setVm vm₁) g.method c below; rw [hg]; exact X₁.here
  have happ : (headSpec ws rm).appliesLoose y e.platform ((T.setVm vm₁).calling { g with stack := rest } mk (Value.ref b :: As).toArray) = true :=
    Spec.appliesLoose_calling (g := { g with stack := rest }) h1 hdg hnm hkY hinitY
      (X₁.room_calling (g := { g with stack := rest }) (R' := rm) hsize hmY hcY hfr (by rw [hlY]; show 2 * g.monitorRoom + (rest.map fun v => v.category).sum + (maxL + 11) + rm.locals ≤ R.locals; omega) (by rw [hrc]; exact hf.1) (by rw [hrs]; exact hf.2)) p1
  obtain ⟨mid, hmid⟩ := h1.above
  have hfr' : ((T.setVm vm₁).setTop { g with stack := rest }).frames = (.java { g with stack := rest } :: mid) ++ below := by rw [State.frames_setTop' _ h1.top, hmid]; rfl
  obtain ⟨o, s₂, hsteps, -, hend, hq⟩ := Steps.callFree hM p X.admits X.cas X.clock (acts := []) hfr' happ (hblind _ _ _ _ (hPc (T.setVm vm₁) rfl hWv)) trivial
  obtain ⟨hq1, ⟨x, rfl⟩, hW₂, hsame⟩ := hq
  rw [State.frames_setTop' _ h1.top, X₁.tail] at hend
  obtain ⟨T', X', hWT, hsm, ht⟩ := X₁.outOfThrown (g := { g with stack := rest }) hg hend hW₂ hsame
  refine ⟨x, (T.setVm vm₁).calling { g with stack := rest } mk (Value.ref b :: As).toArray, s₂, T', rfl, hWv.alike, by simpa using X', ?_, hq1, fun target h => hstep₁ _ fun acts => ?_⟩
  · rw [ht, Stand.throwing_heap]
  · rw [doInvoke_state]
    rw [← ht] at h
    exact hsteps.trans h
/-- ... and its catch in the caller -/
theorem k_catch (S : CallFix p m c cc nL s args Ts own) {Px : Nat → Prop} {cn : Nat → String} (hM : MetT l y ws rm Pc (kQt Px cn) 1 6) (cw : CallW R s args own C index y bytes maxL ret ws rm 1 6 n) (hp : PreV s H C b Pc As) {D : va_G} {cl : List vw_C} {A : Nat → Prop} {wd : va_W} (hWd : kW D cl A s.heap wd H locs)
    (hn : As.length = n) (hsize : ls.size = nL) (hst : st = As.reverse ++ .ref b :: rest) (hcat : (rest.map fun v => v.category).sum ≤ 8) (hdg : decode cc pc = .ok (.invokevirtual index, 3)) (hf : cells + 1 ≤ R.cells ∧ slots + 6 ≤ R.slots) (tgt : Nat → Nat)
    (hfind : ∀ k : Nat, Px k → ∀ T' : State, Stand p l e R s m args below meth c T' locs (cells + 1) (slots + 6) → ∀ (x : Addr) (ce : Cell), T'.heap[x]? = some ce → ce.vm = .none → s.vm.findClass (cn k) = some ce.cls → ∃ vm' : Vm, s.WarmedH vm' ∧ FindsC e ((T'.setTop (F0 m pc ls rest)).pushFrame (.throwing x)) (F0 m pc ls rest) x (.found (tgt k)) vm')
    (kk : ∀ (k : Nat) (x : Addr) (H1 : Heap), Px k → kW D cl A s.heap wd H1 locs → W p l e R s m args below meth c H1 locs (cells + 1) (slots + 6) Q (F0 m (tgt k) ls [.ref x])) : W p l e R s m args below meth c H locs cells slots Q (F0 m pc ls st) := by
  obtain ⟨hx, hb, hml, ho, -⟩ := S
  obtain ⟨hbl, ⟨cellB, hcB, hoB, hclB⟩, hPc⟩ := hp
  intro T hT X
  obtain ⟨x, st₀, t, T', h0, hal, X', e1, ⟨k, x', ce, hpx, hox, hce, hcc, hcv, hge, hold⟩, sg⟩ := kCallT X hx hM hbl ho cw (by rw [hT]; exact hcB) hoB hclB (g := F0 m pc ls st) rfl (hsize.trans hml.symm) hn hst (lv_room hcat) (by rw [hb]; exact hdg) hf (fun U hU hWm => hPc U (hU.trans hT) hWm)
  cases hox
  rw [h0, hT] at hge hold
  have hcc' : s.vm.findClass (cn k) = some ce.cls := by rw [← hal.findClass]; exact hcc
  obtain ⟨vm', hWv, hfd⟩ := hfind k hpx T' X' x ce (by rw [e1]; exact hce) hcv hcc'
  have hsz : H.size ≤ T'.heap.size := by
    have := (Array.getElem?_eq_some_iff.mp hce).1
    rw [← e1] at this
    omega
  have hk : ∀ q : Nat, q < H.size → T'.heap[q]? = H[q]? := fun q hq => by rw [e1]; exact hold q hq
  have hW1 : kW D cl A s.heap wd T'.heap locs := ⟨hWd.1.kept (fun j q hq => hk q.1 ((hWd.1 j q hq).lt)), hWd.2.1, Nat.le_trans hWd.2.2.1 hsz, fun q h1 h2 => (hk q (Nat.lt_of_lt_of_le h1 hWd.2.2.1)).trans (hWd.2.2.2.1 q h1 h2), hWd.2.2.2.2⟩
  obtain ⟨t2, a1, b1⟩ := kk k x T'.heap hpx hW1 (T'.setVm vm') rfl (X'.noted hWv)
  exact ⟨t2, sg t2 (kCaught X' x (g := F0 m pc ls rest) rfl hfd a1), b1⟩
end KCT
section KFH
variable {p : Program} {l : Launch} {e : Env} {R : Room} {s : State} {m : MethodId} {args : Array Value} {below : List Frame} {meth : Method} {c : Code} {T : State} {locs : List Loc} {cells slots : Nat}
theorem kTab {L : List ExceptionTableEntry} {q : Nat × Nat × Nat × Nat} {qs : List (Nat × Nat × Nat × Nat)} (h : L.map (fun h => (h.startPc, h.endPc, h.handlerPc, h.catchType)) = q :: qs) : ∃ (x : ExceptionTableEntry) (r : List ExceptionTableEntry), L = x :: r ∧ x.startPc = q.1 ∧ x.endPc = q.2.1 ∧ x.handlerPc = q.2.2.1 ∧ x.catchType = q.2.2.2 ∧ r.map (fun h => (h.startPc, h.endPc, h.handlerPc, h.catchType)) = qs := by
  cases L with
  | nil => simp at h
  | cons x r =>
    rw [List.map_cons, List.cons.injEq] at h
    obtain ⟨rfl, h2⟩ := h
    exact ⟨x, r, rfl, rfl, rfl, rfl, rfl, h2⟩
theorem kFind1h (X : Stand p l e R s m args below meth c T locs cells slots) {own n1 cn : String} (hown : s.vm.findClass own = some m.cls) {g : JFrame} (hg : g.method = m) {a : Addr} {ce : Cell} (hce : T.heap[a]? = some ce) (hvm : ce.vm = .none) (hcn : s.vm.findClass cn = some ce.cls)
    {a1 b1 h1 t1 : Nat} {hs : List (Nat × Nat × Nat × Nat)} (hh : c.exceptionTable.toList.map (fun h => (h.startPc, h.endPc, h.handlerPc, h.catchType)) = (a1, b1, h1, t1) :: hs) (hcov : a1 ≤ g.pc ∧ g.pc < b1) (ht : t1 ≠ 0) (hcl : (Cond.classLink own t1 n1).before args s = true) (hca : (Cond.castable cn n1).before args s = true) :
    ∃ vm' : Vm, s.WarmedH vm' ∧ FindsC e ((T.setTop g).pushFrame (.throwing a)) g a (.found h1) vm' := by
  obtain ⟨x, r, hl, e1, e2, e3, e4, -⟩ := kTab hh
  dsimp only at e1 e2 e3 e4
  subst e1; subst e2; subst e3; subst e4
  exact kFind1 X hown hg hce hvm hcn hl (by simp [covers, hcov]) ht hcl hca
theorem kFind2h (X : Stand p l e R s m args below meth c T locs cells slots) {own n1 n2 cn : String} (hown : s.vm.findClass own = some m.cls) {g : JFrame} (hg : g.method = m) {a : Addr} {ce : Cell} (hce : T.heap[a]? = some ce) (hvm : ce.vm = .none) (hcn : s.vm.findClass cn = some ce.cls)
    {a1 b1 h1 t1 a2 b2 h2 t2 : Nat} {hs : List (Nat × Nat × Nat × Nat)} (hh : c.exceptionTable.toList.map (fun h => (h.startPc, h.endPc, h.handlerPc, h.catchType)) = (a1, b1, h1, t1) :: (a2, b2, h2, t2) :: hs) (hcov : a1 ≤ g.pc ∧ g.pc < b1) (ht : t1 ≠ 0) (hcl : (Cond.classLink own t1 n1).before args s = true) (hno : va_Nc cn n1 s)
    (hcov2 : a2 ≤ g.pc ∧ g.pc < b2) (ht2 : t2 ≠ 0) (hcl2 : (Cond.classLink own t2 n2).before args s = true) (hca : (Cond.castable cn n2).before args s = true) :
    ∃ vm' : Vm, s.WarmedH vm' ∧ FindsC e ((T.setTop g).pushFrame (.throwing a)) g a (.found h2) vm' := by
  obtain ⟨x, r, hl, e1, e2, e3, e4, hr⟩ := kTab hh
  obtain ⟨x2, r2, hl2, f1, f2, f3, f4, -⟩ := kTab hr
  dsimp only at e1 e2 e3 e4 f1 f2 f3 f4
  subst e1; subst e2; subst e3; subst e4
  subst f1; subst f2; subst f3; subst f4
  exact kFind2 X hown hg hce hvm hcn (by rw [hl, hl2]) (by simp [covers, hcov]) ht hcl hno (by simp [covers, hcov2]) ht2 hcl2 hca
end KFH
