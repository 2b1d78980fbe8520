theorem cs_0 : Cond.castable (exC 0) (exC 0) ∈ stF := by decide +kernel
theorem cs_1 : Cond.castable (exC 1) (exC 1) ∈ stF := by decide +kernel
theorem cs_2 : Cond.castable (exC 2) (exC 2) ∈ stF := by decide +kernel
def kPh (D : va_G) (cl : List vw_C) (tys : List (ClassId × FieldType)) (ws : va_W) (ns : List (String × Nat × MethodName × String)) (sz : Nat) (av : List Value) : Array Value → State → Prop := va_Pc av (fun U => U.heap.size = sz ∧ va_P D cl ws U.heap ∧ va_K D cl tys U ∧ va_D (fun _ => True) ws ∧ kNw ns U ∧ kSt U U.heap)
theorem kPh.blind {D : va_G} {cl : List vw_C} {tys : List (ClassId × FieldType)} {ws : va_W} {ns : List (String × Nat × MethodName × String)} {sz : Nat} {av : List Value} : FrameBlind (kPh D cl tys ws ns sz av) := fun a U g mk q => by
  obtain ⟨q0, q1, qP, qK, qD, qN, qS⟩ := q
  exact ⟨q0, q1, qP, va_K.moved (u := U) (U := U.calling g mk a) (Vm.Alike.refl U.vm) qK, qD, kNw.same (u := U) (U := U.calling g mk a) rfl qN, kSt.same (u := U) (U := U.calling g mk a) rfl qS⟩
/-- the law's helpers: a call with its catches; at most one new cell, the exception -/
def kMh (l : Launch) (y : MethodName) (wsy : List Cond) (rm : Room) (D : va_G) (cl : List vw_C) (tys : List (ClassId × FieldType)) (w : kM → va_W) (ns : List (String × Nat × MethodName × String)) (σ : kM) (av : List Value) (P : Int → kM → Prop) : Prop := ∀ sz : Nat, Met l y wsy rm (kPh D cl tys (w σ) ns sz av) (kQi D cl w P (va_A (w σ) sz)) 1 6 (va_A (w σ) sz)
theorem k_enterW {l : Launch} {y : MethodName} {wsy ws' : List Cond} {rm : Room} {cc : ByteArray} {maxL : Nat} {ret : Option FieldType} {hs : List (Nat × Nat × Nat × Nat)} {D : va_G} {cl : List vw_C} {tys : List (ClassId × FieldType)} {w0 : va_W} {ns : List (String × Nat × MethodName × String)} {sz : Nat} {av : List Value} {Qc : Array Value → State → Outcome → State → Prop} (hy : plainName y.cls = true) (hw : wsy = Cond.codeWith y cc maxL ret hs :: ws') (hlen : (lg_sl av).length ≤ maxL)
    (body : ∀ (p : Program) (e : Env) (s : State) (m : MethodId) (below : List Frame) (meth : Method) (c : Code) (ls : Array Slot), CallFix p m c cc maxL s av.toArray wsy y.cls → meth.sig.returnType = ret → meth.locks = false → c.exceptionTable.toList.map (fun h => (h.startPc, h.endPc, h.handlerPc, h.catchType)) = hs → (∀ q, s.heap.size ≤ q → va_A w0 sz q) → kW D cl (va_A w0 sz) s.heap w0 s.heap [] → va_K D cl tys s → kNw ns s → kSt s s.heap → lv_has ls maxL (lv_args 0 av) →
      W p l e (headSpec wsy rm).room s m av.toArray below meth c s.heap [] 0 0 (MQ below Qc av.toArray s 1 6 (va_A w0 sz)) (F0 m 0 ls [])) : Met l y wsy rm (kPh D cl tys w0 ns sz av) Qc 1 6 (va_A w0 sz) := by
  refine va_MetW (cc := cc) (maxL := maxL) (ret := ret) (hh := hs) hy hw ?_
  intro p e s m args below meth c s₁ B hml hv
  obtain ⟨rfl, hsz, hP, hK, hD0, hn, hst⟩ := hv
  have hl := lv_entry av (n := maxL) hlen
  rw [lg_entry_eq]
  generalize (lg_sl av ++ List.replicate (maxL - (lg_sl av).length) Slot.unset).toArray = ls at hl ⊢
  obtain ⟨m9, meth9, c9, hn9, h1, h2, h3, h4, htab, -⟩ := Cond.codeWith_spec (atoms_spec (ws := wsy) B.pre _ (by rw [hw]; exact List.mem_cons_self))
  cases B.named.symm.trans hn9
  cases B.method.symm.trans h1
  cases (Stand.of_body B).code.symm.trans h2
  exact body p e s m below meth c ls ⟨B.exec, B.bytes, hml, findClass_of_methodNamed B.named, atoms_spec (ws := wsy) B.pre⟩ B.returns B.notSynchronized htab (fun q h => Or.inr (by rw [← hsz]; exact h)) ⟨hP, hD0.self, va_S.rf⟩ hK hn hst hl
set_option maxRecDepth 20000 in
theorem mw_322 : Jvm.Cond.classLink "PeelRibbonsLaw" (13 : Nat) "java/lang/IndexOutOfBoundsException" ∈ gG := gG_of (List.mem_of_getElem? (i := 346) rfl) rfl
set_option maxRecDepth 20000 in
theorem mw_323 : Jvm.Cond.methodLink "PeelRibbonsLaw" (7 : Nat) ({ cls := "PeelRibbons", name := "cell", desc := "(IIIZ)Z" } : Jvm.MethodName) ∈ gG := gG_of (List.mem_of_getElem? (i := 347) rfl) rfl
set_option maxRecDepth 20000 in
theorem mw_324 : Jvm.Cond.instanceMethod ({ cls := "PeelRibbons", name := "cell", desc := "(IIIZ)Z" } : Jvm.MethodName) ∈ gG := gG_of (List.mem_of_getElem? (i := 348) rfl) rfl
set_option maxRecDepth 20000 in
theorem mw_325 : Jvm.Cond.selects "PeelRibbons" ({ cls := "PeelRibbons", name := "cell", desc := "(IIIZ)Z" } : Jvm.MethodName) ({ cls := "PeelRibbons", name := "cell", desc := "(IIIZ)Z" } : Jvm.MethodName) ∈ gG := gG_of (List.mem_of_getElem? (i := 349) rfl) rfl
set_option maxRecDepth 20000 in
theorem mw_421 : Jvm.Cond.methodLink "PeelRibbonsLaw" (15 : Nat) ({ cls := "PeelRibbons", name := "axis", desc := "(I)I" } : Jvm.MethodName) ∈ gG := gG_of (List.mem_of_getElem? (i := 445) rfl) rfl
set_option maxRecDepth 20000 in
theorem mw_422 : Jvm.Cond.instanceMethod ({ cls := "PeelRibbons", name := "axis", desc := "(I)I" } : Jvm.MethodName) ∈ gG := gG_of (List.mem_of_getElem? (i := 446) rfl) rfl
set_option maxRecDepth 20000 in
theorem mw_423 : Jvm.Cond.selects "PeelRibbons" ({ cls := "PeelRibbons", name := "axis", desc := "(I)I" } : Jvm.MethodName) ({ cls := "PeelRibbons", name := "axis", desc := "(I)I" } : Jvm.MethodName) ∈ gG := gG_of (List.mem_of_getElem? (i := 447) rfl) rfl
set_option maxRecDepth 20000 in
theorem mw_434 : Jvm.Cond.methodLink "PeelRibbonsLaw" (19 : Nat) ({ cls := "PeelRibbons", name := "roomOf", desc := "(IIII)I" } : Jvm.MethodName) ∈ gG := gG_of (List.mem_of_getElem? (i := 458) rfl) rfl
set_option maxRecDepth 20000 in
theorem mw_435 : Jvm.Cond.instanceMethod ({ cls := "PeelRibbons", name := "roomOf", desc := "(IIII)I" } : Jvm.MethodName) ∈ gG := gG_of (List.mem_of_getElem? (i := 459) rfl) rfl
set_option maxRecDepth 20000 in
theorem mw_436 : Jvm.Cond.selects "PeelRibbons" ({ cls := "PeelRibbons", name := "roomOf", desc := "(IIII)I" } : Jvm.MethodName) ({ cls := "PeelRibbons", name := "roomOf", desc := "(IIII)I" } : Jvm.MethodName) ∈ gG := gG_of (List.mem_of_getElem? (i := 460) rfl) rfl
set_option maxRecDepth 20000 in
theorem mw_450 : Jvm.Cond.classLink "PeelRibbonsLaw" (27 : Nat) "java/lang/IllegalArgumentException" ∈ gG := gG_of (List.mem_of_getElem? (i := 474) rfl) rfl
set_option maxRecDepth 20000 in
theorem mw_451 : Jvm.Cond.methodLink "PeelRibbonsLaw" (23 : Nat) ({ cls := "PeelRibbons", name := "peel", desc := "(II)I" } : Jvm.MethodName) ∈ gG := gG_of (List.mem_of_getElem? (i := 475) rfl) rfl
set_option maxRecDepth 20000 in
theorem mw_452 : Jvm.Cond.instanceMethod ({ cls := "PeelRibbons", name := "peel", desc := "(II)I" } : Jvm.MethodName) ∈ gG := gG_of (List.mem_of_getElem? (i := 476) rfl) rfl
set_option maxRecDepth 20000 in
theorem mw_453 : Jvm.Cond.selects "PeelRibbons" ({ cls := "PeelRibbons", name := "peel", desc := "(II)I" } : Jvm.MethodName) ({ cls := "PeelRibbons", name := "peel", desc := "(II)I" } : Jvm.MethodName) ∈ gG := gG_of (List.mem_of_getElem? (i := 477) rfl) rfl
set_option maxRecDepth 20000 in
theorem mw_483 : Jvm.Cond.classLink "PeelRibbonsLaw" (32 : Nat) "java/lang/IllegalStateException" ∈ gG := gG_of (List.mem_of_getElem? (i := 507) rfl) rfl
set_option maxRecDepth 20000 in
theorem mw_484 : Jvm.Cond.methodLink "PeelRibbonsLaw" (29 : Nat) ({ cls := "PeelRibbons", name := "before", desc := "(I)I" } : Jvm.MethodName) ∈ gG := gG_of (List.mem_of_getElem? (i := 508) rfl) rfl
set_option maxRecDepth 20000 in
theorem mw_485 : Jvm.Cond.instanceMethod ({ cls := "PeelRibbons", name := "before", desc := "(I)I" } : Jvm.MethodName) ∈ gG := gG_of (List.mem_of_getElem? (i := 509) rfl) rfl
set_option maxRecDepth 20000 in
theorem mw_486 : Jvm.Cond.selects "PeelRibbons" ({ cls := "PeelRibbons", name := "before", desc := "(I)I" } : Jvm.MethodName) ({ cls := "PeelRibbons", name := "before", desc := "(I)I" } : Jvm.MethodName) ∈ gG := gG_of (List.mem_of_getElem? (i := 510) rfl) rfl
set_option maxRecDepth 20000 in
theorem mw_519 : Jvm.Cond.methodLink "PeelRibbonsLaw" (34 : Nat) ({ cls := "PeelRibbons", name := "fault", desc := "(III)I" } : Jvm.MethodName) ∈ gG := gG_of (List.mem_of_getElem? (i := 543) rfl) rfl
set_option maxRecDepth 20000 in
theorem mw_520 : Jvm.Cond.instanceMethod ({ cls := "PeelRibbons", name := "fault", desc := "(III)I" } : Jvm.MethodName) ∈ gG := gG_of (List.mem_of_getElem? (i := 544) rfl) rfl
set_option maxRecDepth 20000 in
theorem mw_521 : Jvm.Cond.selects "PeelRibbons" ({ cls := "PeelRibbons", name := "fault", desc := "(III)I" } : Jvm.MethodName) ({ cls := "PeelRibbons", name := "fault", desc := "(III)I" } : Jvm.MethodName) ∈ gG := gG_of (List.mem_of_getElem? (i := 545) rfl) rfl
set_option maxRecDepth 20000 in
theorem mw_539 : Jvm.Cond.methodLink "PeelRibbonsLaw" (38 : Nat) ({ cls := "PeelRibbons", name := "unrolled", desc := "(I)I" } : Jvm.MethodName) ∈ gG := gG_of (List.mem_of_getElem? (i := 563) rfl) rfl
set_option maxRecDepth 20000 in
theorem mw_540 : Jvm.Cond.instanceMethod ({ cls := "PeelRibbons", name := "unrolled", desc := "(I)I" } : Jvm.MethodName) ∈ gG := gG_of (List.mem_of_getElem? (i := 564) rfl) rfl
set_option maxRecDepth 20000 in
theorem mw_541 : Jvm.Cond.selects "PeelRibbons" ({ cls := "PeelRibbons", name := "unrolled", desc := "(I)I" } : Jvm.MethodName) ({ cls := "PeelRibbons", name := "unrolled", desc := "(I)I" } : Jvm.MethodName) ∈ gG := gG_of (List.mem_of_getElem? (i := 565) rfl) rfl
set_option maxRecDepth 20000 in
theorem mw_561 : Jvm.Cond.methodLink "PeelRibbonsLaw" (41 : Nat) ({ cls := "PeelRibbons", name := "leaf", desc := "(II)I" } : Jvm.MethodName) ∈ gG := gG_of (List.mem_of_getElem? (i := 585) rfl) rfl
set_option maxRecDepth 20000 in
theorem mw_562 : Jvm.Cond.instanceMethod ({ cls := "PeelRibbons", name := "leaf", desc := "(II)I" } : Jvm.MethodName) ∈ gG := gG_of (List.mem_of_getElem? (i := 586) rfl) rfl
set_option maxRecDepth 20000 in
theorem mw_563 : Jvm.Cond.selects "PeelRibbons" ({ cls := "PeelRibbons", name := "leaf", desc := "(II)I" } : Jvm.MethodName) ({ cls := "PeelRibbons", name := "leaf", desc := "(II)I" } : Jvm.MethodName) ∈ gG := gG_of (List.mem_of_getElem? (i := 587) rfl) rfl
set_option maxRecDepth 20000 in
theorem mw_579 : Jvm.Cond.methodLink "PeelRibbonsLaw" (44 : Nat) ({ cls := "PeelRibbons", name := "bars", desc := "(IIZ)Z" } : Jvm.MethodName) ∈ gG := gG_of (List.mem_of_getElem? (i := 603) rfl) rfl
set_option maxRecDepth 20000 in
theorem mw_580 : Jvm.Cond.instanceMethod ({ cls := "PeelRibbons", name := "bars", desc := "(IIZ)Z" } : Jvm.MethodName) ∈ gG := gG_of (List.mem_of_getElem? (i := 604) rfl) rfl
set_option maxRecDepth 20000 in
theorem mw_581 : Jvm.Cond.selects "PeelRibbons" ({ cls := "PeelRibbons", name := "bars", desc := "(IIZ)Z" } : Jvm.MethodName) ({ cls := "PeelRibbons", name := "bars", desc := "(IIZ)Z" } : Jvm.MethodName) ∈ gG := gG_of (List.mem_of_getElem? (i := 605) rfl) rfl
set_option maxRecDepth 20000 in
theorem mw_600 : Jvm.Cond.methodLink "PeelRibbonsLaw" (48 : Nat) ({ cls := "PeelRibbons", name := "clip", desc := "(I)I" } : Jvm.MethodName) ∈ gG := gG_of (List.mem_of_getElem? (i := 624) rfl) rfl
set_option maxRecDepth 20000 in
theorem mw_601 : Jvm.Cond.instanceMethod ({ cls := "PeelRibbons", name := "clip", desc := "(I)I" } : Jvm.MethodName) ∈ gG := gG_of (List.mem_of_getElem? (i := 625) rfl) rfl
set_option maxRecDepth 20000 in
theorem mw_602 : Jvm.Cond.selects "PeelRibbons" ({ cls := "PeelRibbons", name := "clip", desc := "(I)I" } : Jvm.MethodName) ({ cls := "PeelRibbons", name := "clip", desc := "(I)I" } : Jvm.MethodName) ∈ gG := gG_of (List.mem_of_getElem? (i := 626) rfl) rfl
set_option maxRecDepth 20000 in
theorem mw_665 : Jvm.Cond.methodLink "PeelRibbonsLaw" (51 : Nat) ({ cls := "PeelRibbons", name := "at", desc := "(II)I" } : Jvm.MethodName) ∈ gG := gG_of (List.mem_of_getElem? (i := 689) rfl) rfl
set_option maxRecDepth 20000 in
theorem mw_666 : Jvm.Cond.instanceMethod ({ cls := "PeelRibbons", name := "at", desc := "(II)I" } : Jvm.MethodName) ∈ gG := gG_of (List.mem_of_getElem? (i := 690) rfl) rfl
set_option maxRecDepth 20000 in
theorem mw_667 : Jvm.Cond.selects "PeelRibbons" ({ cls := "PeelRibbons", name := "at", desc := "(II)I" } : Jvm.MethodName) ({ cls := "PeelRibbons", name := "at", desc := "(II)I" } : Jvm.MethodName) ∈ gG := gG_of (List.mem_of_getElem? (i := 691) rfl) rfl
set_option maxRecDepth 20000 in
theorem mw_686 : Jvm.Cond.methodLink "PeelRibbonsLaw" (54 : Nat) ({ cls := "PeelRibbons", name := "clipped", desc := "(I)I" } : Jvm.MethodName) ∈ gG := gG_of (List.mem_of_getElem? (i := 710) rfl) rfl
set_option maxRecDepth 20000 in
theorem mw_687 : Jvm.Cond.instanceMethod ({ cls := "PeelRibbons", name := "clipped", desc := "(I)I" } : Jvm.MethodName) ∈ gG := gG_of (List.mem_of_getElem? (i := 711) rfl) rfl
set_option maxRecDepth 20000 in
theorem mw_688 : Jvm.Cond.selects "PeelRibbons" ({ cls := "PeelRibbons", name := "clipped", desc := "(I)I" } : Jvm.MethodName) ({ cls := "PeelRibbons", name := "clipped", desc := "(I)I" } : Jvm.MethodName) ∈ gG := gG_of (List.mem_of_getElem? (i := 712) rfl) rfl
set_option maxRecDepth 20000 in
theorem mw_706 : Jvm.Cond.methodLink "PeelRibbonsLaw" (57 : Nat) ({ cls := "PeelRibbons", name := "shrink", desc := "(III)I" } : Jvm.MethodName) ∈ gG := gG_of (List.mem_of_getElem? (i := 730) rfl) rfl
set_option maxRecDepth 20000 in
theorem mw_707 : Jvm.Cond.instanceMethod ({ cls := "PeelRibbons", name := "shrink", desc := "(III)I" } : Jvm.MethodName) ∈ gG := gG_of (List.mem_of_getElem? (i := 731) rfl) rfl
set_option maxRecDepth 20000 in
theorem mw_708 : Jvm.Cond.selects "PeelRibbons" ({ cls := "PeelRibbons", name := "shrink", desc := "(III)I" } : Jvm.MethodName) ({ cls := "PeelRibbons", name := "shrink", desc := "(III)I" } : Jvm.MethodName) ∈ gG := gG_of (List.mem_of_getElem? (i := 732) rfl) rfl
set_option maxRecDepth 20000 in
theorem mw_716 : Jvm.Cond.methodLink "PeelRibbonsLaw" (60 : Nat) ({ cls := "PeelRibbons", name := "row", desc := "(II)Z" } : Jvm.MethodName) ∈ gG := gG_of (List.mem_of_getElem? (i := 740) rfl) rfl
set_option maxRecDepth 20000 in
theorem mw_717 : Jvm.Cond.instanceMethod ({ cls := "PeelRibbons", name := "row", desc := "(II)Z" } : Jvm.MethodName) ∈ gG := gG_of (List.mem_of_getElem? (i := 741) rfl) rfl
set_option maxRecDepth 20000 in
theorem mw_718 : Jvm.Cond.selects "PeelRibbons" ({ cls := "PeelRibbons", name := "row", desc := "(II)Z" } : Jvm.MethodName) ({ cls := "PeelRibbons", name := "row", desc := "(II)Z" } : Jvm.MethodName) ∈ gG := gG_of (List.mem_of_getElem? (i := 742) rfl) rfl
set_option maxRecDepth 20000 in
theorem mw_732 : Jvm.Cond.methodLink "PeelRibbonsLaw" (64 : Nat) ({ cls := "PeelRibbons", name := "knife", desc := "(I)I" } : Jvm.MethodName) ∈ gG := gG_of (List.mem_of_getElem? (i := 756) rfl) rfl
set_option maxRecDepth 20000 in
theorem mw_733 : Jvm.Cond.instanceMethod ({ cls := "PeelRibbons", name := "knife", desc := "(I)I" } : Jvm.MethodName) ∈ gG := gG_of (List.mem_of_getElem? (i := 757) rfl) rfl
set_option maxRecDepth 20000 in
theorem mw_734 : Jvm.Cond.selects "PeelRibbons" ({ cls := "PeelRibbons", name := "knife", desc := "(I)I" } : Jvm.MethodName) ({ cls := "PeelRibbons", name := "knife", desc := "(I)I" } : Jvm.MethodName) ∈ gG := gG_of (List.mem_of_getElem? (i := 758) rfl) rfl
def jn_W_cell_20 (nn : Nat → Nat) (Pr : Int → kM → Prop) (s1 : kM) (v1 : Int) : Prop := ∀ s2 : kM, s2 = va_up s1 26 (va_up (s1 26) 0 v1) → Pr 0 s2
def wp_W_cell (nn : Nat → Nat) (σ : kM) (p1 : Int) (p2 : Int) (p3 : Int) (p4 : Int) (Pr : Int → kM → Prop) : Prop := ((∃ P1 : Int → kM → Prop, wp_P_cell nn σ p1 p2 p3 p4 P1 (fun _ _ => False) ∧ ∀ (r1 : Int) (s1 : kM), P1 r1 s1 → iR r1 ∧ ((r1 = 0 → jn_W_cell_20 nn Pr s1 0) ∧ (¬ r1 = 0 → jn_W_cell_20 nn Pr s1 1))) ∨ (∃ Px1 : Nat → Prop, wt_P_cell nn σ p1 p2 p3 p4 Px1 ∧ ∀ k : Nat, Px1 k → k = 0 ∧ Pr 1 σ))
def wp_W_axis (nn : Nat → Nat) (σ : kM) (p1 : Int) (Pr : Int → kM → Prop) : Prop := ((∃ P1 : Int → kM → Prop, wp_P_axis nn σ p1 P1 (fun _ _ => False) ∧ ∀ (r1 : Int) (s1 : kM), P1 r1 s1 → iR r1 ∧ ∀ s2 : kM, s2 = va_up s1 26 (va_up (s1 26) 0 r1) → Pr 0 s2) ∨ (∃ Px1 : Nat → Prop, wt_P_axis nn σ p1 Px1 ∧ ∀ k : Nat, Px1 k → k = 0 ∧ Pr 1 σ))
def wp_W_roomOf (nn : Nat → Nat) (σ : kM) (p1 : Int) (p2 : Int) (p3 : Int) (p4 : Int) (Pr : Int → kM → Prop) : Prop := ((∃ P1 : Int → kM → Prop, wp_P_roomOf nn σ p1 p2 p3 p4 P1 (fun _ _ => False) ∧ ∀ (r1 : Int) (s1 : kM), P1 r1 s1 → iR r1 ∧ ∀ s2 : kM, s2 = va_up s1 26 (va_up (s1 26) 0 r1) → Pr 0 s2) ∨ (∃ Px1 : Nat → Prop, wt_P_roomOf nn σ p1 p2 p3 p4 Px1 ∧ ∀ k : Nat, Px1 k → k = 0 ∧ Pr 1 σ))
def wp_W_peel (nn : Nat → Nat) (σ : kM) (p1 : Int) (p2 : Int) (Pr : Int → kM → Prop) : Prop := ((∃ P1 : Int → kM → Prop, wp_P_peel nn σ p1 p2 P1 (fun _ _ => False) ∧ ∀ (r1 : Int) (s1 : kM), P1 r1 s1 → iR r1 ∧ ∀ s2 : kM, s2 = va_up s1 26 (va_up (s1 26) 0 r1) → Pr 0 s2) ∨ (∃ Px1 : Nat → Prop, wt_P_peel nn σ p1 p2 Px1 ∧ ∀ k : Nat, Px1 k → k = 1 ∧ Pr 1 σ))
def wp_W_before (nn : Nat → Nat) (σ : kM) (p1 : Int) (Pr : Int → kM → Prop) : Prop := ((∃ P1 : Int → kM → Prop, wp_P_before nn σ p1 P1 (fun _ _ => False) ∧ ∀ (r1 : Int) (s1 : kM), P1 r1 s1 → iR r1 ∧ ∀ s2 : kM, s2 = va_up s1 26 (va_up (s1 26) 0 r1) → Pr 0 s2) ∨ (∃ Px1 : Nat → Prop, wt_P_before nn σ p1 Px1 ∧ ∀ k : Nat, Px1 k → (k = 2 ∧ Pr 1 σ) ∨ (k = 0 ∧ Pr 2 σ)))
def wp_W_fault (nn : Nat → Nat) (σ : kM) (p1 : Int) (p2 : Int) (p3 : Int) (Pr : Int → kM → Prop) : Prop := ((∃ P1 : Int → kM → Prop, wp_P_fault nn σ p1 p2 p3 P1 (fun _ _ => False) ∧ ∀ (r1 : Int) (s1 : kM), P1 r1 s1 → iR r1 ∧ ∀ s2 : kM, s2 = va_up s1 26 (va_up (s1 26) 0 r1) → Pr 0 s2) ∨ (∃ Px1 : Nat → Prop, wt_P_fault nn σ p1 p2 p3 Px1 ∧ ∀ k : Nat, Px1 k → (k = 1 ∧ Pr 1 σ) ∨ (k = 2 ∧ Pr 2 σ)))
def wp_W_unrolled (nn : Nat → Nat) (σ : kM) (p1 : Int) (Pr : Int → kM → Prop) : Prop := ((∃ P1 : Int → kM → Prop, wp_P_unrolled nn σ p1 P1 (fun _ _ => False) ∧ ∀ (r1 : Int) (s1 : kM), P1 r1 s1 → iR r1 ∧ ∀ s2 : kM, s2 = va_up s1 26 (va_up (s1 26) 0 r1) → Pr 0 s2) ∨ (∃ Px1 : Nat → Prop, wt_P_unrolled nn σ p1 Px1 ∧ ∀ k : Nat, Px1 k → (k = 0 ∧ Pr 1 σ) ∨ (k = 2 ∧ Pr 2 σ)))
def wp_W_leaf (nn : Nat → Nat) (σ : kM) (p1 : Int) (p2 : Int) (Pr : Int → kM → Prop) : Prop := ((∃ P1 : Int → kM → Prop, wp_P_leaf nn σ p1 p2 P1 (fun _ _ => False) ∧ ∀ (r1 : Int) (s1 : kM), P1 r1 s1 → iR r1 ∧ ∀ s2 : kM, s2 = va_up s1 26 (va_up (s1 26) 0 r1) → Pr 0 s2) ∨ (∃ Px1 : Nat → Prop, wt_P_leaf nn σ p1 p2 Px1 ∧ ∀ k : Nat, Px1 k → (k = 1 ∧ Pr 1 σ) ∨ (k = 2 ∧ Pr 2 σ)))
def jn_W_bars_18 (nn : Nat → Nat) (Pr : Int → kM → Prop) (s1 : kM) (v1 : Int) : Prop := ∀ s2 : kM, s2 = va_up s1 26 (va_up (s1 26) 0 v1) → Pr 0 s2
def wp_W_bars (nn : Nat → Nat) (σ : kM) (p1 : Int) (p2 : Int) (p3 : Int) (Pr : Int → kM → Prop) : Prop := ((∃ P1 : Int → kM → Prop, wp_P_bars nn σ p1 p2 p3 P1 (fun _ _ => False) ∧ ∀ (r1 : Int) (s1 : kM), P1 r1 s1 → iR r1 ∧ ((r1 = 0 → jn_W_bars_18 nn Pr s1 0) ∧ (¬ r1 = 0 → jn_W_bars_18 nn Pr s1 1))) ∨ (∃ Px1 : Nat → Prop, wt_P_bars nn σ p1 p2 p3 Px1 ∧ ∀ k : Nat, Px1 k → k = 0 ∧ Pr 1 σ))
def wp_W_clip (nn : Nat → Nat) (σ : kM) (p1 : Int) (Pr : Int → kM → Prop) : Prop := ((∃ P1 : Int → kM → Prop, wp_P_clip nn σ p1 P1 (fun _ _ => False) ∧ ∀ (r1 : Int) (s1 : kM), P1 r1 s1 → iR r1 ∧ ∀ s2 : kM, s2 = va_up s1 26 (va_up (s1 26) 0 r1) → Pr 0 s2) ∨ (∃ Px1 : Nat → Prop, wt_P_clip nn σ p1 Px1 ∧ ∀ k : Nat, Px1 k → (k = 1 ∧ Pr 1 σ) ∨ (k = 2 ∧ Pr 2 σ)))
def wp_W_at (nn : Nat → Nat) (σ : kM) (p1 : Int) (p2 : Int) (Pr : Int → kM → Prop) : Prop := ((∃ P1 : Int → kM → Prop, wp_P_at nn σ p1 p2 P1 (fun _ _ => False) ∧ ∀ (r1 : Int) (s1 : kM), P1 r1 s1 → iR r1 ∧ ∀ s2 : kM, s2 = va_up s1 26 (va_up (s1 26) 0 r1) → Pr 0 s2) ∨ (∃ Px1 : Nat → Prop, wt_P_at nn σ p1 p2 Px1 ∧ ∀ k : Nat, Px1 k → (k = 2 ∧ Pr 1 σ) ∨ (k = 0 ∧ Pr 2 σ)))
def wp_W_clipped (nn : Nat → Nat) (σ : kM) (p1 : Int) (Pr : Int → kM → Prop) : Prop := ((∃ P1 : Int → kM → Prop, wp_P_clipped nn σ p1 P1 (fun _ _ => False) ∧ ∀ (r1 : Int) (s1 : kM), P1 r1 s1 → iR r1 ∧ ∀ s2 : kM, s2 = va_up s1 26 (va_up (s1 26) 0 r1) → Pr 0 s2) ∨ (∃ Px1 : Nat → Prop, wt_P_clipped nn σ p1 Px1 ∧ ∀ k : Nat, Px1 k → (k = 2 ∧ Pr 1 σ) ∨ (k = 0 ∧ Pr 2 σ)))
def wp_W_shrink (nn : Nat → Nat) (σ : kM) (p1 : Int) (p2 : Int) (p3 : Int) (Pr : Int → kM → Prop) : Prop := ((∃ P1 : Int → kM → Prop, wp_P_shrink nn σ p1 p2 p3 P1 (fun _ _ => False) ∧ ∀ (r1 : Int) (s1 : kM), P1 r1 s1 → iR r1 ∧ ∀ s2 : kM, s2 = va_up s1 26 (va_up (s1 26) 0 r1) → Pr 0 s2) ∨ (∃ Px1 : Nat → Prop, wt_P_shrink nn σ p1 p2 p3 Px1 ∧ ∀ k : Nat, Px1 k → (k = 0 ∧ Pr 1 σ) ∨ (k = 1 ∧ Pr 2 σ)))
def jn_W_row_16 (nn : Nat → Nat) (Pr : Int → kM → Prop) (s1 : kM) (v1 : Int) : Prop := ∀ s2 : kM, s2 = va_up s1 26 (va_up (s1 26) 0 v1) → Pr 0 s2
def wp_W_row (nn : Nat → Nat) (σ : kM) (p1 : Int) (p2 : Int) (Pr : Int → kM → Prop) : Prop := ((∃ P1 : Int → kM → Prop, wp_P_row nn σ p1 p2 P1 (fun _ _ => False) ∧ ∀ (r1 : Int) (s1 : kM), P1 r1 s1 → iR r1 ∧ ((r1 = 0 → jn_W_row_16 nn Pr s1 0) ∧ (¬ r1 = 0 → jn_W_row_16 nn Pr s1 1))) ∨ (∃ Px1 : Nat → Prop, wt_P_row nn σ p1 p2 Px1 ∧ ∀ k : Nat, Px1 k → k = 1 ∧ Pr 1 σ))
def wp_W_knife (nn : Nat → Nat) (σ : kM) (p1 : Int) (Pr : Int → kM → Prop) : Prop := ((∃ P1 : Int → kM → Prop, wp_P_knife nn σ p1 P1 (fun _ _ => False) ∧ ∀ (r1 : Int) (s1 : kM), P1 r1 s1 → iR r1 ∧ ∀ s2 : kM, s2 = va_up s1 26 (va_up (s1 26) 0 r1) → Pr 0 s2) ∨ (∃ Px1 : Nat → Prop, wt_P_knife nn σ p1 Px1 ∧ ∀ k : Nat, Px1 k → k = 1 ∧ Pr 1 σ))
abbrev ws_W_cell : List Cond := .codeWith y_W_cell b_W_cell 7 (some .int) [(0, 21, 24, 13)] :: gG
set_option maxRecDepth 20000 in
theorem k_W_cell : Cond.codeWith y_W_cell b_W_cell 7 (some .int) [(0, 21, 24, 13)] ∈ gG := gG_of (List.mem_of_getElem? (i := 345) rfl) rfl
abbrev rm_W_cell : Room := { frames := 7, cells := 1, slots := 6, locals := 107 }
set_option maxHeartbeats 4000000 in
set_option maxRecDepth 100000 in
theorem c_W_cell (l : Launch) (htr : l.stackTraces = false) (dC : Nat → ClassId) (dI : Nat → Nat → Nat) (ad : Nat → Nat) (kc : Nat → ClassId) (nn : Nat → Nat) (σ : kM) (p1 : Int) (p2 : Int) (p3 : Int) (p4 : Int) {P : Int → kM → Prop} (h : wp_W_cell nn σ p1 p2 p3 p4 P) : kMh l y_W_cell ws_W_cell rm_W_cell (dC, dI) vwC (tyC kc) (wC ad kc nn) nsG σ [.ref (ad 0), .int (iI p1), .int (iI p2), .int (iI p3), .int (iI p4), .ref (ad 26)] P := by
  intro sz
  refine k_enterW (cc := b_W_cell) (maxL := 7) (ret := (some .int)) (hs := [(0, 21, 24, 13)]) (by decide) rfl (Nat.le_of_ble_eq_true rfl) ?_
  intro p e s m below meth c ls S hr hlocks hh hA hW hK hN hst hl
  generalize va_A (wC ad kc nn σ) sz = A at hA hW ⊢
  generalize ([.ref (ad 0), .int (iI p1), .int (iI p2), .int (iI p3), .int (iI p4), .ref (ad 26)] : List Value).toArray = args at S ⊢
  obtain ⟨hx, hb, hml, hown, hts⟩ := id S
  have hl : lv_has ls 7 [(0, .ref (ad 0)), (1, .int (iI p1)), (2, .int (iI p2)), (3, .int (iI p3)), (4, .int (iI p4)), (5, .ref (ad 26))] := hl
  unfold wp_W_cell at h
  refine lv_aload hx hb dW_cell_0 (lv_at hl 5 rfl) ?_
  refine lv_iconst (v := iI 0) hx hb dW_cell_2 rfl ?_
  refine lv_aload_n hx hb dW_cell_3 rfl (lv_at hl 0 rfl) ?_
  refine lv_iload_n hx hb dW_cell_4 rfl (lv_at hl 1 rfl) ?_
  refine lv_iload_n hx hb dW_cell_5 rfl (lv_at hl 2 rfl) ?_
  refine lv_iload_n hx hb dW_cell_6 rfl (lv_at hl 3 rfl) ?_
  refine lv_iload hx hb dW_cell_7 (lv_at hl 4 rfl) ?_
  rcases h with h | h
  · skip
    obtain ⟨P1, g1, h⟩ := h
    refine kc_vi (As := [.int (iI p1), .int (iI p2), .int (iI p3), .int (iI p4)]) (rest := [.int (iI 0), .ref (ad 26)]) (ci := 0) (q0 := 0) S (c_P_cell l dC dI ad kc nn σ p1 p2 p3 p4 g1) (cwV 4 hts (gV mw_323 mw_324 mw_325 mw_1 k_P_cell) rfl rfl rfl (by decide +kernel) ⟨Nat.le_of_ble_eq_true rfl, Nat.le_of_ble_eq_true rfl⟩) hK hN hA hW (fun _ => rfl) rfl rfl rfl hl.1 rfl (Nat.le_of_ble_eq_true rfl) dW_cell_9 ⟨Nat.zero_le _, Nat.zero_le _⟩ (fun r1 s1 H locs hp hW => ?_)
    have h := h r1 s1 hp
    obtain ⟨q1, h⟩ := h
    have jW1 : ∀ (v1 : Int) (H : Heap) (locs : List Loc) (ls : Array Slot), kW (dC, dI) vwC A s.heap (wC ad kc nn s1) H locs → lv_has ls 7 [] → jn_W_cell_20 nn P s1 v1 → W p l e (headSpec ws_W_cell rm_W_cell).room s m args below meth c H locs 0 0 (MQ below (kQi (dC, dI) vwC (wC ad kc nn) P A) args s 1 6 A) (F0 m 20 ls [.long (lI v1), .int (iI 0), .ref (ad 26)]) := by
      intro v1 H locs ls hW hl h
      unfold jn_W_cell_20 at h
      obtain ⟨s2, es2⟩ : ∃ z : kM, z = va_up s1 26 (va_up (s1 26) 0 v1) := ⟨_, rfl⟩
      refine k_last (ws' := wC ad kc nn s2) hx hb hK hW 26 18 (s1 26) rfl rfl ⟨by decide, by decide, by decide⟩ (by rw [es2]; exact wC_a26 ..) dW_cell_20 (fun H locs hW => ?_)
      have h := h s2 es2
      refine lv_goto (tgt := 28) hx hb dW_cell_21 (by decide) ?_
      refine lv_iconst (v := iI 0) hx hb dW_cell_28 rfl ?_
      refine W.widen (k := 1) (n := 6) (Nat.le_of_ble_eq_true rfl) (Nat.le_of_ble_eq_true rfl) ?_
      exact k_iret hx hb hr hlocks hW dW_cell_29 h
    obtain ⟨ht, hf⟩ := h
    refine ki_if_eq (tgt := 19) hx hb dW_cell_12 (by decide) q1 (fun c1 => ?_) (fun c1 => ?_)
    · have h := ht c1
      refine lv_lconst (v := lI 0) hx hb dW_cell_19 (by decide) ?_
      exact jW1 0 _ _ ls hW (lv_sub hl [] rfl) h
    · have h := hf c1
      refine lv_lconst (v := lI 1) hx hb dW_cell_15 (by decide) ?_
      refine lv_goto (tgt := 20) hx hb dW_cell_16 (by decide) ?_
      exact jW1 1 _ _ ls hW (lv_sub hl [] rfl) h
  · skip
    obtain ⟨Px1, g2, h⟩ := h
    refine k_catch (As := [.int (iI p1), .int (iI p2), .int (iI p3), .int (iI p4)]) (rest := [.int (iI 0), .ref (ad 26)]) S (t_P_cell l htr dC dI ad kc nn σ p1 p2 p3 p4 g2) (cwV 4 hts (gV mw_323 mw_324 mw_325 mw_1 k_P_cell) rfl rfl rfl (by decide +kernel) ⟨Nat.le_of_ble_eq_true rfl, Nat.le_of_ble_eq_true rfl⟩) ⟨kPt.blind, va_recv hK hW.1 (ci := 0) (q0 := 0) rfl rfl, fun U hU hWm => ⟨rfl, by rw [hU]; exact hW.1, va_K.moved hWm.alike hK, hN.warm hWm, by rw [hU]; exact hst.warm hWm⟩⟩ hW rfl hl.1 rfl (Nat.le_of_ble_eq_true rfl) dW_cell_9 ⟨Nat.le_of_ble_eq_true rfl, Nat.le_of_ble_eq_true rfl⟩ (fun _ => 24) (fun k hpx T' X' x ce q1 q2 q3 => ?_) (fun k x H hpx hW => ?_)
    · obtain ⟨rfl, -⟩ := h k hpx
      exact kFind1h X' hown rfl q1 q2 q3 hh ⟨Nat.le_of_ble_eq_true rfl, Nat.le_of_ble_eq_true rfl⟩ (by decide) (hts _ (gG_in mw_322)) (hst.1 _ _ cs_0)
    · obtain ⟨rfl, h⟩ := h k hpx
      refine lv_astore (lv' := [(6, .ref x), (0, .ref (ad 0)), (1, .int (iI p1)), (2, .int (iI p2)), (3, .int (iI p3)), (4, .int (iI p4)), (5, .ref (ad 26))]) hx hb dW_cell_24 hl (by decide) rfl (fun ls hl => ?_)
      refine lv_iconst (v := iI 1) hx hb dW_cell_26 rfl ?_
      refine W.widen (k := 1) (n := 6) (Nat.le_of_ble_eq_true rfl) (Nat.le_of_ble_eq_true rfl) ?_
      exact k_iret hx hb hr hlocks hW dW_cell_27 h
abbrev ws_W_axis : List Cond := .codeWith y_W_axis b_W_axis 4 (some .int) [(0, 9, 12, 13)] :: gG
set_option maxRecDepth 20000 in
theorem k_W_axis : Cond.codeWith y_W_axis b_W_axis 4 (some .int) [(0, 9, 12, 13)] ∈ gG := gG_of (List.mem_of_getElem? (i := 444) rfl) rfl
abbrev rm_W_axis : Room := { frames := 7, cells := 1, slots := 6, locals := 161 }
set_option maxHeartbeats 4000000 in
set_option maxRecDepth 100000 in
theorem c_W_axis (l : Launch) (htr : l.stackTraces = false) (dC : Nat → ClassId) (dI : Nat → Nat → Nat) (ad : Nat → Nat) (kc : Nat → ClassId) (nn : Nat → Nat) (σ : kM) (p1 : Int) {P : Int → kM → Prop} (h : wp_W_axis nn σ p1 P) : kMh l y_W_axis ws_W_axis rm_W_axis (dC, dI) vwC (tyC kc) (wC ad kc nn) nsG σ [.ref (ad 0), .int (iI p1), .ref (ad 26)] P := by
  intro sz
  refine k_enterW (cc := b_W_axis) (maxL := 4) (ret := (some .int)) (hs := [(0, 9, 12, 13)]) (by decide) rfl (Nat.le_of_ble_eq_true rfl) ?_
  intro p e s m below meth c ls S hr hlocks hh hA hW hK hN hst hl
  generalize va_A (wC ad kc nn σ) sz = A at hA hW ⊢
  generalize ([.ref (ad 0), .int (iI p1), .ref (ad 26)] : List Value).toArray = args at S ⊢
  obtain ⟨hx, hb, hml, hown, hts⟩ := id S
  have hl : lv_has ls 4 [(0, .ref (ad 0)), (1, .int (iI p1)), (2, .ref (ad 26))] := hl
  unfold wp_W_axis at h
  refine lv_aload_n hx hb dW_axis_0 rfl (lv_at hl 2 rfl) ?_
  refine lv_iconst (v := iI 0) hx hb dW_axis_1 rfl ?_
  refine lv_aload_n hx hb dW_axis_2 rfl (lv_at hl 0 rfl) ?_
  refine lv_iload_n hx hb dW_axis_3 rfl (lv_at hl 1 rfl) ?_
  rcases h with h | h
  · skip
    obtain ⟨P1, g1, h⟩ := h
    refine kc_vi (As := [.int (iI p1)]) (rest := [.int (iI 0), .ref (ad 26)]) (ci := 0) (q0 := 0) S (c_P_axis l dC dI ad kc nn σ p1 g1) (cwV 1 hts (gV mw_421 mw_422 mw_423 mw_1 k_P_axis) rfl rfl rfl (by decide +kernel) ⟨Nat.le_of_ble_eq_true rfl, Nat.le_of_ble_eq_true rfl⟩) hK hN hA hW (fun _ => rfl) rfl rfl rfl hl.1 rfl (Nat.le_of_ble_eq_true rfl) dW_axis_4 ⟨Nat.zero_le _, Nat.zero_le _⟩ (fun r1 s1 H locs hp hW => ?_)
    have h := h r1 s1 hp
    obtain ⟨q1, h⟩ := h
    refine ki_i2l hx hb dW_axis_7 q1 ?_
    obtain ⟨s2, es2⟩ : ∃ z : kM, z = va_up s1 26 (va_up (s1 26) 0 r1) := ⟨_, rfl⟩
    refine k_last (ws' := wC ad kc nn s2) hx hb hK hW 26 18 (s1 26) rfl rfl ⟨by decide, by decide, by decide⟩ (by rw [es2]; exact wC_a26 ..) dW_axis_8 (fun H locs hW => ?_)
    have h := h s2 es2
    refine lv_goto (tgt := 15) hx hb dW_axis_9 (by decide) ?_
    refine lv_iconst (v := iI 0) hx hb dW_axis_15 rfl ?_
    refine W.widen (k := 1) (n := 6) (Nat.le_of_ble_eq_true rfl) (Nat.le_of_ble_eq_true rfl) ?_
    exact k_iret hx hb hr hlocks hW dW_axis_16 h
  · skip
    obtain ⟨Px1, g2, h⟩ := h
    refine k_catch (As := [.int (iI p1)]) (rest := [.int (iI 0), .ref (ad 26)]) S (t_P_axis l htr dC dI ad kc nn σ p1 g2) (cwV 1 hts (gV mw_421 mw_422 mw_423 mw_1 k_P_axis) rfl rfl rfl (by decide +kernel) ⟨Nat.le_of_ble_eq_true rfl, Nat.le_of_ble_eq_true rfl⟩) ⟨kPt.blind, va_recv hK hW.1 (ci := 0) (q0 := 0) rfl rfl, fun U hU hWm => ⟨rfl, by rw [hU]; exact hW.1, va_K.moved hWm.alike hK, hN.warm hWm, by rw [hU]; exact hst.warm hWm⟩⟩ hW rfl hl.1 rfl (Nat.le_of_ble_eq_true rfl) dW_axis_4 ⟨Nat.le_of_ble_eq_true rfl, Nat.le_of_ble_eq_true rfl⟩ (fun _ => 12) (fun k hpx T' X' x ce q1 q2 q3 => ?_) (fun k x H hpx hW => ?_)
    · obtain ⟨rfl, -⟩ := h k hpx
      exact kFind1h X' hown rfl q1 q2 q3 hh ⟨Nat.le_of_ble_eq_true rfl, Nat.le_of_ble_eq_true rfl⟩ (by decide) (hts _ (gG_in mw_322)) (hst.1 _ _ cs_0)
    · obtain ⟨rfl, h⟩ := h k hpx
      refine lv_astore_n (lv' := [(3, .ref x), (0, .ref (ad 0)), (1, .int (iI p1)), (2, .ref (ad 26))]) hx hb dW_axis_12 rfl hl (by decide) rfl (fun ls hl => ?_)
      refine lv_iconst (v := iI 1) hx hb dW_axis_13 rfl ?_
      refine W.widen (k := 1) (n := 6) (Nat.le_of_ble_eq_true rfl) (Nat.le_of_ble_eq_true rfl) ?_
      exact k_iret hx hb hr hlocks hW dW_axis_14 h
abbrev ws_W_roomOf : List Cond := .codeWith y_W_roomOf b_W_roomOf 7 (some .int) [(0, 14, 17, 13)] :: gG
set_option maxRecDepth 20000 in
theorem k_W_roomOf : Cond.codeWith y_W_roomOf b_W_roomOf 7 (some .int) [(0, 14, 17, 13)] ∈ gG := gG_of (List.mem_of_getElem? (i := 457) rfl) rfl
abbrev rm_W_roomOf : Room := { frames := 7, cells := 1, slots := 6, locals := 142 }
set_option maxHeartbeats 4000000 in
set_option maxRecDepth 100000 in
theorem c_W_roomOf (l : Launch) (htr : l.stackTraces = false) (dC : Nat → ClassId) (dI : Nat → Nat → Nat) (ad : Nat → Nat) (kc : Nat → ClassId) (nn : Nat → Nat) (σ : kM) (p1 : Int) (p2 : Int) (p3 : Int) (p4 : Int) {P : Int → kM → Prop} (h : wp_W_roomOf nn σ p1 p2 p3 p4 P) : kMh l y_W_roomOf ws_W_roomOf rm_W_roomOf (dC, dI) vwC (tyC kc) (wC ad kc nn) nsG σ [.ref (ad 0), .int (iI p1), .int (iI p2), .int (iI p3), .int (iI p4), .ref (ad 26)] P := by
  intro sz
  refine k_enterW (cc := b_W_roomOf) (maxL := 7) (ret := (some .int)) (hs := [(0, 14, 17, 13)]) (by decide) rfl (Nat.le_of_ble_eq_true rfl) ?_
  intro p e s m below meth c ls S hr hlocks hh hA hW hK hN hst hl
  generalize va_A (wC ad kc nn σ) sz = A at hA hW ⊢
  generalize ([.ref (ad 0), .int (iI p1), .int (iI p2), .int (iI p3), .int (iI p4), .ref (ad 26)] : List Value).toArray = args at S ⊢
  obtain ⟨hx, hb, hml, hown, hts⟩ := id S
  have hl : lv_has ls 7 [(0, .ref (ad 0)), (1, .int (iI p1)), (2, .int (iI p2)), (3, .int (iI p3)), (4, .int (iI p4)), (5, .ref (ad 26))] := hl
  unfold wp_W_roomOf at h
  refine lv_aload hx hb dW_roomOf_0 (lv_at hl 5 rfl) ?_
  refine lv_iconst (v := iI 0) hx hb dW_roomOf_2 rfl ?_
  refine lv_aload_n hx hb dW_roomOf_3 rfl (lv_at hl 0 rfl) ?_
  refine lv_iload_n hx hb dW_roomOf_4 rfl (lv_at hl 1 rfl) ?_
  refine lv_iload_n hx hb dW_roomOf_5 rfl (lv_at hl 2 rfl) ?_
  refine lv_iload_n hx hb dW_roomOf_6 rfl (lv_at hl 3 rfl) ?_
  refine lv_iload hx hb dW_roomOf_7 (lv_at hl 4 rfl) ?_
  rcases h with h | h
  · skip
    obtain ⟨P1, g1, h⟩ := h
    refine kc_vi (As := [.int (iI p1), .int (iI p2), .int (iI p3), .int (iI p4)]) (rest := [.int (iI 0), .ref (ad 26)]) (ci := 0) (q0 := 0) S (c_P_roomOf l dC dI ad kc nn σ p1 p2 p3 p4 g1) (cwV 4 hts (gV mw_434 mw_435 mw_436 mw_1 k_P_roomOf) rfl rfl rfl (by decide +kernel) ⟨Nat.le_of_ble_eq_true rfl, Nat.le_of_ble_eq_true rfl⟩) hK hN hA hW (fun _ => rfl) rfl rfl rfl hl.1 rfl (Nat.le_of_ble_eq_true rfl) dW_roomOf_9 ⟨Nat.zero_le _, Nat.zero_le _⟩ (fun r1 s1 H locs hp hW => ?_)
    have h := h r1 s1 hp
    obtain ⟨q1, h⟩ := h
    refine ki_i2l hx hb dW_roomOf_12 q1 ?_
    obtain ⟨s2, es2⟩ : ∃ z : kM, z = va_up s1 26 (va_up (s1 26) 0 r1) := ⟨_, rfl⟩
    refine k_last (ws' := wC ad kc nn s2) hx hb hK hW 26 18 (s1 26) rfl rfl ⟨by decide, by decide, by decide⟩ (by rw [es2]; exact wC_a26 ..) dW_roomOf_13 (fun H locs hW => ?_)
    have h := h s2 es2
    refine lv_goto (tgt := 21) hx hb dW_roomOf_14 (by decide) ?_
    refine lv_iconst (v := iI 0) hx hb dW_roomOf_21 rfl ?_
    refine W.widen (k := 1) (n := 6) (Nat.le_of_ble_eq_true rfl) (Nat.le_of_ble_eq_true rfl) ?_
    exact k_iret hx hb hr hlocks hW dW_roomOf_22 h
  · skip
    obtain ⟨Px1, g2, h⟩ := h
    refine k_catch (As := [.int (iI p1), .int (iI p2), .int (iI p3), .int (iI p4)]) (rest := [.int (iI 0), .ref (ad 26)]) S (t_P_roomOf l htr dC dI ad kc nn σ p1 p2 p3 p4 g2) (cwV 4 hts (gV mw_434 mw_435 mw_436 mw_1 k_P_roomOf) rfl rfl rfl (by decide +kernel) ⟨Nat.le_of_ble_eq_true rfl, Nat.le_of_ble_eq_true rfl⟩) ⟨kPt.blind, va_recv hK hW.1 (ci := 0) (q0 := 0) rfl rfl, fun U hU hWm => ⟨rfl, by rw [hU]; exact hW.1, va_K.moved hWm.alike hK, hN.warm hWm, by rw [hU]; exact hst.warm hWm⟩⟩ hW rfl hl.1 rfl (Nat.le_of_ble_eq_true rfl) dW_roomOf_9 ⟨Nat.le_of_ble_eq_true rfl, Nat.le_of_ble_eq_true rfl⟩ (fun _ => 17) (fun k hpx T' X' x ce q1 q2 q3 => ?_) (fun k x H hpx hW => ?_)
    · obtain ⟨rfl, -⟩ := h k hpx
      exact kFind1h X' hown rfl q1 q2 q3 hh ⟨Nat.le_of_ble_eq_true rfl, Nat.le_of_ble_eq_true rfl⟩ (by decide) (hts _ (gG_in mw_322)) (hst.1 _ _ cs_0)
    · obtain ⟨rfl, h⟩ := h k hpx
      refine lv_astore (lv' := [(6, .ref x), (0, .ref (ad 0)), (1, .int (iI p1)), (2, .int (iI p2)), (3, .int (iI p3)), (4, .int (iI p4)), (5, .ref (ad 26))]) hx hb dW_roomOf_17 hl (by decide) rfl (fun ls hl => ?_)
      refine lv_iconst (v := iI 1) hx hb dW_roomOf_19 rfl ?_
      refine W.widen (k := 1) (n := 6) (Nat.le_of_ble_eq_true rfl) (Nat.le_of_ble_eq_true rfl) ?_
      exact k_iret hx hb hr hlocks hW dW_roomOf_20 h
abbrev ws_W_peel : List Cond := .codeWith y_W_peel b_W_peel 5 (some .int) [(0, 10, 13, 27)] :: gG
set_option maxRecDepth 20000 in
theorem k_W_peel : Cond.codeWith y_W_peel b_W_peel 5 (some .int) [(0, 10, 13, 27)] ∈ gG := gG_of (List.mem_of_getElem? (i := 473) rfl) rfl
abbrev rm_W_peel : Room := { frames := 7, cells := 1, slots := 6, locals := 161 }
set_option maxHeartbeats 4000000 in
set_option maxRecDepth 100000 in
theorem c_W_peel (l : Launch) (htr : l.stackTraces = false) (dC : Nat → ClassId) (dI : Nat → Nat → Nat) (ad : Nat → Nat) (kc : Nat → ClassId) (nn : Nat → Nat) (σ : kM) (p1 : Int) (p2 : Int) {P : Int → kM → Prop} (h : wp_W_peel nn σ p1 p2 P) : kMh l y_W_peel ws_W_peel rm_W_peel (dC, dI) vwC (tyC kc) (wC ad kc nn) nsG σ [.ref (ad 0), .int (iI p1), .int (iI p2), .ref (ad 26)] P := by
  intro sz
  refine k_enterW (cc := b_W_peel) (maxL := 5) (ret := (some .int)) (hs := [(0, 10, 13, 27)]) (by decide) rfl (Nat.le_of_ble_eq_true rfl) ?_
  intro p e s m below meth c ls S hr hlocks hh hA hW hK hN hst hl
  generalize va_A (wC ad kc nn σ) sz = A at hA hW ⊢
  generalize ([.ref (ad 0), .int (iI p1), .int (iI p2), .ref (ad 26)] : List Value).toArray = args at S ⊢
  obtain ⟨hx, hb, hml, hown, hts⟩ := id S
  have hl : lv_has ls 5 [(0, .ref (ad 0)), (1, .int (iI p1)), (2, .int (iI p2)), (3, .ref (ad 26))] := hl
  unfold wp_W_peel at h
  refine lv_aload_n hx hb dW_peel_0 rfl (lv_at hl 3 rfl) ?_
  refine lv_iconst (v := iI 0) hx hb dW_peel_1 rfl ?_
  refine lv_aload_n hx hb dW_peel_2 rfl (lv_at hl 0 rfl) ?_
  refine lv_iload_n hx hb dW_peel_3 rfl (lv_at hl 1 rfl) ?_
  refine lv_iload_n hx hb dW_peel_4 rfl (lv_at hl 2 rfl) ?_
  rcases h with h | h
  · skip
    obtain ⟨P1, g1, h⟩ := h
    refine kc_vi (As := [.int (iI p1), .int (iI p2)]) (rest := [.int (iI 0), .ref (ad 26)]) (ci := 0) (q0 := 0) S (c_P_peel l dC dI ad kc nn σ p1 p2 g1) (cwV 2 hts (gV mw_451 mw_452 mw_453 mw_1 k_P_peel) rfl rfl rfl (by decide +kernel) ⟨Nat.le_of_ble_eq_true rfl, Nat.le_of_ble_eq_true rfl⟩) hK hN hA hW (fun _ => rfl) rfl rfl rfl hl.1 rfl (Nat.le_of_ble_eq_true rfl) dW_peel_5 ⟨Nat.zero_le _, Nat.zero_le _⟩ (fun r1 s1 H locs hp hW => ?_)
    have h := h r1 s1 hp
    obtain ⟨q1, h⟩ := h
    refine ki_i2l hx hb dW_peel_8 q1 ?_
    obtain ⟨s2, es2⟩ : ∃ z : kM, z = va_up s1 26 (va_up (s1 26) 0 r1) := ⟨_, rfl⟩
    refine k_last (ws' := wC ad kc nn s2) hx hb hK hW 26 18 (s1 26) rfl rfl ⟨by decide, by decide, by decide⟩ (by rw [es2]; exact wC_a26 ..) dW_peel_9 (fun H locs hW => ?_)
    have h := h s2 es2
    refine lv_goto (tgt := 17) hx hb dW_peel_10 (by decide) ?_
    refine lv_iconst (v := iI 0) hx hb dW_peel_17 rfl ?_
    refine W.widen (k := 1) (n := 6) (Nat.le_of_ble_eq_true rfl) (Nat.le_of_ble_eq_true rfl) ?_
    exact k_iret hx hb hr hlocks hW dW_peel_18 h
  · skip
    obtain ⟨Px1, g2, h⟩ := h
    refine k_catch (As := [.int (iI p1), .int (iI p2)]) (rest := [.int (iI 0), .ref (ad 26)]) S (t_P_peel l htr dC dI ad kc nn σ p1 p2 g2) (cwV 2 hts (gV mw_451 mw_452 mw_453 mw_1 k_P_peel) rfl rfl rfl (by decide +kernel) ⟨Nat.le_of_ble_eq_true rfl, Nat.le_of_ble_eq_true rfl⟩) ⟨kPt.blind, va_recv hK hW.1 (ci := 0) (q0 := 0) rfl rfl, fun U hU hWm => ⟨rfl, by rw [hU]; exact hW.1, va_K.moved hWm.alike hK, hN.warm hWm, by rw [hU]; exact hst.warm hWm⟩⟩ hW rfl hl.1 rfl (Nat.le_of_ble_eq_true rfl) dW_peel_5 ⟨Nat.le_of_ble_eq_true rfl, Nat.le_of_ble_eq_true rfl⟩ (fun _ => 13) (fun k hpx T' X' x ce q1 q2 q3 => ?_) (fun k x H hpx hW => ?_)
    · obtain ⟨rfl, -⟩ := h k hpx
      exact kFind1h X' hown rfl q1 q2 q3 hh ⟨Nat.le_of_ble_eq_true rfl, Nat.le_of_ble_eq_true rfl⟩ (by decide) (hts _ (gG_in mw_450)) (hst.1 _ _ cs_1)
    · obtain ⟨rfl, h⟩ := h k hpx
      refine lv_astore (lv' := [(4, .ref x), (0, .ref (ad 0)), (1, .int (iI p1)), (2, .int (iI p2)), (3, .ref (ad 26))]) hx hb dW_peel_13 hl (by decide) rfl (fun ls hl => ?_)
      refine lv_iconst (v := iI 1) hx hb dW_peel_15 rfl ?_
      refine W.widen (k := 1) (n := 6) (Nat.le_of_ble_eq_true rfl) (Nat.le_of_ble_eq_true rfl) ?_
      exact k_iret hx hb hr hlocks hW dW_peel_16 h
abbrev ws_W_before : List Cond := .codeWith y_W_before b_W_before 4 (some .int) [(0, 9, 12, 32), (0, 9, 15, 13)] :: gG
set_option maxRecDepth 20000 in
theorem k_W_before : Cond.codeWith y_W_before b_W_before 4 (some .int) [(0, 9, 12, 32), (0, 9, 15, 13)] ∈ gG := gG_of (List.mem_of_getElem? (i := 506) rfl) rfl
abbrev rm_W_before : Room := { frames := 7, cells := 1, slots := 6, locals := 103 }
set_option maxHeartbeats 4000000 in
set_option maxRecDepth 100000 in
theorem c_W_before (l : Launch) (htr : l.stackTraces = false) (dC : Nat → ClassId) (dI : Nat → Nat → Nat) (ad : Nat → Nat) (kc : Nat → ClassId) (nn : Nat → Nat) (σ : kM) (p1 : Int) {P : Int → kM → Prop} (h : wp_W_before nn σ p1 P) : kMh l y_W_before ws_W_before rm_W_before (dC, dI) vwC (tyC kc) (wC ad kc nn) nsG σ [.ref (ad 0), .int (iI p1), .ref (ad 26)] P := by
  intro sz
  refine k_enterW (cc := b_W_before) (maxL := 4) (ret := (some .int)) (hs := [(0, 9, 12, 32), (0, 9, 15, 13)]) (by decide) rfl (Nat.le_of_ble_eq_true rfl) ?_
  intro p e s m below meth c ls S hr hlocks hh hA hW hK hN hst hl
  generalize va_A (wC ad kc nn σ) sz = A at hA hW ⊢
  generalize ([.ref (ad 0), .int (iI p1), .ref (ad 26)] : List Value).toArray = args at S ⊢
  obtain ⟨hx, hb, hml, hown, hts⟩ := id S
  have hl : lv_has ls 4 [(0, .ref (ad 0)), (1, .int (iI p1)), (2, .ref (ad 26))] := hl
  unfold wp_W_before at h
  refine lv_aload_n hx hb dW_before_0 rfl (lv_at hl 2 rfl) ?_
  refine lv_iconst (v := iI 0) hx hb dW_before_1 rfl ?_
  refine lv_aload_n hx hb dW_before_2 rfl (lv_at hl 0 rfl) ?_
  refine lv_iload_n hx hb dW_before_3 rfl (lv_at hl 1 rfl) ?_
  rcases h with h | h
  · skip
    obtain ⟨P1, g1, h⟩ := h
    refine kc_vi (As := [.int (iI p1)]) (rest := [.int (iI 0), .ref (ad 26)]) (ci := 0) (q0 := 0) S (c_P_before l dC dI ad kc nn σ p1 g1) (cwV 1 hts (gV mw_484 mw_485 mw_486 mw_1 k_P_before) rfl rfl rfl (by decide +kernel) ⟨Nat.le_of_ble_eq_true rfl, Nat.le_of_ble_eq_true rfl⟩) hK hN hA hW (fun _ => rfl) rfl rfl rfl hl.1 rfl (Nat.le_of_ble_eq_true rfl) dW_before_4 ⟨Nat.zero_le _, Nat.zero_le _⟩ (fun r1 s1 H locs hp hW => ?_)
    have h := h r1 s1 hp
    obtain ⟨q1, h⟩ := h
    refine ki_i2l hx hb dW_before_7 q1 ?_
    obtain ⟨s2, es2⟩ : ∃ z : kM, z = va_up s1 26 (va_up (s1 26) 0 r1) := ⟨_, rfl⟩
    refine k_last (ws' := wC ad kc nn s2) hx hb hK hW 26 18 (s1 26) rfl rfl ⟨by decide, by decide, by decide⟩ (by rw [es2]; exact wC_a26 ..) dW_before_8 (fun H locs hW => ?_)
    have h := h s2 es2
    refine lv_goto (tgt := 18) hx hb dW_before_9 (by decide) ?_
    refine lv_iconst (v := iI 0) hx hb dW_before_18 rfl ?_
    refine W.widen (k := 1) (n := 6) (Nat.le_of_ble_eq_true rfl) (Nat.le_of_ble_eq_true rfl) ?_
    exact k_iret hx hb hr hlocks hW dW_before_19 h
  · skip
    obtain ⟨Px1, g2, h⟩ := h
    refine k_catch (As := [.int (iI p1)]) (rest := [.int (iI 0), .ref (ad 26)]) S (t_P_before l htr dC dI ad kc nn σ p1 g2) (cwV 1 hts (gV mw_484 mw_485 mw_486 mw_1 k_P_before) rfl rfl rfl (by decide +kernel) ⟨Nat.le_of_ble_eq_true rfl, Nat.le_of_ble_eq_true rfl⟩) ⟨kPt.blind, va_recv hK hW.1 (ci := 0) (q0 := 0) rfl rfl, fun U hU hWm => ⟨rfl, by rw [hU]; exact hW.1, va_K.moved hWm.alike hK, hN.warm hWm, by rw [hU]; exact hst.warm hWm⟩⟩ hW rfl hl.1 rfl (Nat.le_of_ble_eq_true rfl) dW_before_4 ⟨Nat.le_of_ble_eq_true rfl, Nat.le_of_ble_eq_true rfl⟩ (fun k => if k = 2 then 12 else 15) (fun k hpx T' X' x ce q1 q2 q3 => ?_) (fun k x H hpx hW => ?_)
    · rcases h k hpx with ⟨rfl, -⟩ | ⟨rfl, -⟩
      · exact kFind1h X' hown rfl q1 q2 q3 hh ⟨Nat.le_of_ble_eq_true rfl, Nat.le_of_ble_eq_true rfl⟩ (by decide) (hts _ (gG_in mw_483)) (hst.1 _ _ cs_2)
      · exact kFind2h X' hown rfl q1 q2 q3 hh ⟨Nat.le_of_ble_eq_true rfl, Nat.le_of_ble_eq_true rfl⟩ (by decide) (hts _ (gG_in mw_483)) (hst.2.2.2.1 (exC 0, exC 2) (by decide +kernel)) ⟨Nat.le_of_ble_eq_true rfl, Nat.le_of_ble_eq_true rfl⟩ (by decide) (hts _ (gG_in mw_322)) (hst.1 _ _ cs_0)
    · rcases h k hpx with ⟨rfl, h⟩ | ⟨rfl, h⟩
      · skip
        refine lv_astore_n (lv' := [(3, .ref x), (0, .ref (ad 0)), (1, .int (iI p1)), (2, .ref (ad 26))]) hx hb dW_before_12 rfl hl (by decide) rfl (fun ls hl => ?_)
        refine lv_iconst (v := iI 1) hx hb dW_before_13 rfl ?_
        refine W.widen (k := 1) (n := 6) (Nat.le_of_ble_eq_true rfl) (Nat.le_of_ble_eq_true rfl) ?_
        exact k_iret hx hb hr hlocks hW dW_before_14 h
      · skip
        refine lv_astore_n (lv' := [(3, .ref x), (0, .ref (ad 0)), (1, .int (iI p1)), (2, .ref (ad 26))]) hx hb dW_before_15 rfl hl (by decide) rfl (fun ls hl => ?_)
        refine lv_iconst (v := iI 2) hx hb dW_before_16 rfl ?_
        refine W.widen (k := 1) (n := 6) (Nat.le_of_ble_eq_true rfl) (Nat.le_of_ble_eq_true rfl) ?_
        exact k_iret hx hb hr hlocks hW dW_before_17 h
abbrev ws_W_fault : List Cond := .codeWith y_W_fault b_W_fault 6 (some .int) [(0, 12, 15, 27), (0, 12, 19, 32)] :: gG
set_option maxRecDepth 20000 in
theorem k_W_fault : Cond.codeWith y_W_fault b_W_fault 6 (some .int) [(0, 12, 15, 27), (0, 12, 19, 32)] ∈ gG := gG_of (List.mem_of_getElem? (i := 542) rfl) rfl
abbrev rm_W_fault : Room := { frames := 7, cells := 1, slots := 6, locals := 105 }
set_option maxHeartbeats 4000000 in
set_option maxRecDepth 100000 in
theorem c_W_fault (l : Launch) (htr : l.stackTraces = false) (dC : Nat → ClassId) (dI : Nat → Nat → Nat) (ad : Nat → Nat) (kc : Nat → ClassId) (nn : Nat → Nat) (σ : kM) (p1 : Int) (p2 : Int) (p3 : Int) {P : Int → kM → Prop} (h : wp_W_fault nn σ p1 p2 p3 P) : kMh l y_W_fault ws_W_fault rm_W_fault (dC, dI) vwC (tyC kc) (wC ad kc nn) nsG σ [.ref (ad 0), .int (iI p1), .int (iI p2), .int (iI p3), .ref (ad 26)] P := by
  intro sz
  refine k_enterW (cc := b_W_fault) (maxL := 6) (ret := (some .int)) (hs := [(0, 12, 15, 27), (0, 12, 19, 32)]) (by decide) rfl (Nat.le_of_ble_eq_true rfl) ?_
  intro p e s m below meth c ls S hr hlocks hh hA hW hK hN hst hl
  generalize va_A (wC ad kc nn σ) sz = A at hA hW ⊢
  generalize ([.ref (ad 0), .int (iI p1), .int (iI p2), .int (iI p3), .ref (ad 26)] : List Value).toArray = args at S ⊢
  obtain ⟨hx, hb, hml, hown, hts⟩ := id S
  have hl : lv_has ls 6 [(0, .ref (ad 0)), (1, .int (iI p1)), (2, .int (iI p2)), (3, .int (iI p3)), (4, .ref (ad 26))] := hl
  unfold wp_W_fault at h
  refine lv_aload hx hb dW_fault_0 (lv_at hl 4 rfl) ?_
  refine lv_iconst (v := iI 0) hx hb dW_fault_2 rfl ?_
  refine lv_aload_n hx hb dW_fault_3 rfl (lv_at hl 0 rfl) ?_
  refine lv_iload_n hx hb dW_fault_4 rfl (lv_at hl 1 rfl) ?_
  refine lv_iload_n hx hb dW_fault_5 rfl (lv_at hl 2 rfl) ?_
  refine lv_iload_n hx hb dW_fault_6 rfl (lv_at hl 3 rfl) ?_
  rcases h with h | h
  · skip
    obtain ⟨P1, g1, h⟩ := h
    refine kc_vi (As := [.int (iI p1), .int (iI p2), .int (iI p3)]) (rest := [.int (iI 0), .ref (ad 26)]) (ci := 0) (q0 := 0) S (c_P_fault l dC dI ad kc nn σ p1 p2 p3 g1) (cwV 3 hts (gV mw_519 mw_520 mw_521 mw_1 k_P_fault) rfl rfl rfl (by decide +kernel) ⟨Nat.le_of_ble_eq_true rfl, Nat.le_of_ble_eq_true rfl⟩) hK hN hA hW (fun _ => rfl) rfl rfl rfl hl.1 rfl (Nat.le_of_ble_eq_true rfl) dW_fault_7 ⟨Nat.zero_le _, Nat.zero_le _⟩ (fun r1 s1 H locs hp hW => ?_)
    have h := h r1 s1 hp
    obtain ⟨q1, h⟩ := h
    refine ki_i2l hx hb dW_fault_10 q1 ?_
    obtain ⟨s2, es2⟩ : ∃ z : kM, z = va_up s1 26 (va_up (s1 26) 0 r1) := ⟨_, rfl⟩
    refine k_last (ws' := wC ad kc nn s2) hx hb hK hW 26 18 (s1 26) rfl rfl ⟨by decide, by decide, by decide⟩ (by rw [es2]; exact wC_a26 ..) dW_fault_11 (fun H locs hW => ?_)
    have h := h s2 es2
    refine lv_goto (tgt := 23) hx hb dW_fault_12 (by decide) ?_
    refine lv_iconst (v := iI 0) hx hb dW_fault_23 rfl ?_
    refine W.widen (k := 1) (n := 6) (Nat.le_of_ble_eq_true rfl) (Nat.le_of_ble_eq_true rfl) ?_
    exact k_iret hx hb hr hlocks hW dW_fault_24 h
  · skip
    obtain ⟨Px1, g2, h⟩ := h
    refine k_catch (As := [.int (iI p1), .int (iI p2), .int (iI p3)]) (rest := [.int (iI 0), .ref (ad 26)]) S (t_P_fault l htr dC dI ad kc nn σ p1 p2 p3 g2) (cwV 3 hts (gV mw_519 mw_520 mw_521 mw_1 k_P_fault) rfl rfl rfl (by decide +kernel) ⟨Nat.le_of_ble_eq_true rfl, Nat.le_of_ble_eq_true rfl⟩) ⟨kPt.blind, va_recv hK hW.1 (ci := 0) (q0 := 0) rfl rfl, fun U hU hWm => ⟨rfl, by rw [hU]; exact hW.1, va_K.moved hWm.alike hK, hN.warm hWm, by rw [hU]; exact hst.warm hWm⟩⟩ hW rfl hl.1 rfl (Nat.le_of_ble_eq_true rfl) dW_fault_7 ⟨Nat.le_of_ble_eq_true rfl, Nat.le_of_ble_eq_true rfl⟩ (fun k => if k = 1 then 15 else 19) (fun k hpx T' X' x ce q1 q2 q3 => ?_) (fun k x H hpx hW => ?_)
    · rcases h k hpx with ⟨rfl, -⟩ | ⟨rfl, -⟩
      · exact kFind1h X' hown rfl q1 q2 q3 hh ⟨Nat.le_of_ble_eq_true rfl, Nat.le_of_ble_eq_true rfl⟩ (by decide) (hts _ (gG_in mw_450)) (hst.1 _ _ cs_1)
      · exact kFind2h X' hown rfl q1 q2 q3 hh ⟨Nat.le_of_ble_eq_true rfl, Nat.le_of_ble_eq_true rfl⟩ (by decide) (hts _ (gG_in mw_450)) (hst.2.2.2.1 (exC 2, exC 1) (by decide +kernel)) ⟨Nat.le_of_ble_eq_true rfl, Nat.le_of_ble_eq_true rfl⟩ (by decide) (hts _ (gG_in mw_483)) (hst.1 _ _ cs_2)
    · rcases h k hpx with ⟨rfl, h⟩ | ⟨rfl, h⟩
      · skip
        refine lv_astore (lv' := [(5, .ref x), (0, .ref (ad 0)), (1, .int (iI p1)), (2, .int (iI p2)), (3, .int (iI p3)), (4, .ref (ad 26))]) hx hb dW_fault_15 hl (by decide) rfl (fun ls hl => ?_)
        refine lv_iconst (v := iI 1) hx hb dW_fault_17 rfl ?_
        refine W.widen (k := 1) (n := 6) (Nat.le_of_ble_eq_true rfl) (Nat.le_of_ble_eq_true rfl) ?_
        exact k_iret hx hb hr hlocks hW dW_fault_18 h
      · skip
        refine lv_astore (lv' := [(5, .ref x), (0, .ref (ad 0)), (1, .int (iI p1)), (2, .int (iI p2)), (3, .int (iI p3)), (4, .ref (ad 26))]) hx hb dW_fault_19 hl (by decide) rfl (fun ls hl => ?_)
        refine lv_iconst (v := iI 2) hx hb dW_fault_21 rfl ?_
        refine W.widen (k := 1) (n := 6) (Nat.le_of_ble_eq_true rfl) (Nat.le_of_ble_eq_true rfl) ?_
        exact k_iret hx hb hr hlocks hW dW_fault_22 h
abbrev ws_W_unrolled : List Cond := .codeWith y_W_unrolled b_W_unrolled 4 (some .int) [(0, 9, 12, 13), (0, 9, 15, 32)] :: gG
set_option maxRecDepth 20000 in
theorem k_W_unrolled : Cond.codeWith y_W_unrolled b_W_unrolled 4 (some .int) [(0, 9, 12, 13), (0, 9, 15, 32)] ∈ gG := gG_of (List.mem_of_getElem? (i := 562) rfl) rfl
abbrev rm_W_unrolled : Room := { frames := 7, cells := 1, slots := 6, locals := 108 }
set_option maxHeartbeats 4000000 in
set_option maxRecDepth 100000 in
theorem c_W_unrolled (l : Launch) (htr : l.stackTraces = false) (dC : Nat → ClassId) (dI : Nat → Nat → Nat) (ad : Nat → Nat) (kc : Nat → ClassId) (nn : Nat → Nat) (σ : kM) (p1 : Int) {P : Int → kM → Prop} (h : wp_W_unrolled nn σ p1 P) : kMh l y_W_unrolled ws_W_unrolled rm_W_unrolled (dC, dI) vwC (tyC kc) (wC ad kc nn) nsG σ [.ref (ad 0), .int (iI p1), .ref (ad 26)] P := by
  intro sz
  refine k_enterW (cc := b_W_unrolled) (maxL := 4) (ret := (some .int)) (hs := [(0, 9, 12, 13), (0, 9, 15, 32)]) (by decide) rfl (Nat.le_of_ble_eq_true rfl) ?_
  intro p e s m below meth c ls S hr hlocks hh hA hW hK hN hst hl
  generalize va_A (wC ad kc nn σ) sz = A at hA hW ⊢
  generalize ([.ref (ad 0), .int (iI p1), .ref (ad 26)] : List Value).toArray = args at S ⊢
  obtain ⟨hx, hb, hml, hown, hts⟩ := id S
  have hl : lv_has ls 4 [(0, .ref (ad 0)), (1, .int (iI p1)), (2, .ref (ad 26))] := hl
  unfold wp_W_unrolled at h
  refine lv_aload_n hx hb dW_unrolled_0 rfl (lv_at hl 2 rfl) ?_
  refine lv_iconst (v := iI 0) hx hb dW_unrolled_1 rfl ?_
  refine lv_aload_n hx hb dW_unrolled_2 rfl (lv_at hl 0 rfl) ?_
  refine lv_iload_n hx hb dW_unrolled_3 rfl (lv_at hl 1 rfl) ?_
  rcases h with h | h
  · skip
    obtain ⟨P1, g1, h⟩ := h
    refine kc_vi (As := [.int (iI p1)]) (rest := [.int (iI 0), .ref (ad 26)]) (ci := 0) (q0 := 0) S (c_P_unrolled l dC dI ad kc nn σ p1 g1) (cwV 1 hts (gV mw_539 mw_540 mw_541 mw_1 k_P_unrolled) rfl rfl rfl (by decide +kernel) ⟨Nat.le_of_ble_eq_true rfl, Nat.le_of_ble_eq_true rfl⟩) hK hN hA hW (fun _ => rfl) rfl rfl rfl hl.1 rfl (Nat.le_of_ble_eq_true rfl) dW_unrolled_4 ⟨Nat.zero_le _, Nat.zero_le _⟩ (fun r1 s1 H locs hp hW => ?_)
    have h := h r1 s1 hp
    obtain ⟨q1, h⟩ := h
    refine ki_i2l hx hb dW_unrolled_7 q1 ?_
    obtain ⟨s2, es2⟩ : ∃ z : kM, z = va_up s1 26 (va_up (s1 26) 0 r1) := ⟨_, rfl⟩
    refine k_last (ws' := wC ad kc nn s2) hx hb hK hW 26 18 (s1 26) rfl rfl ⟨by decide, by decide, by decide⟩ (by rw [es2]; exact wC_a26 ..) dW_unrolled_8 (fun H locs hW => ?_)
    have h := h s2 es2
    refine lv_goto (tgt := 18) hx hb dW_unrolled_9 (by decide) ?_
    refine lv_iconst (v := iI 0) hx hb dW_unrolled_18 rfl ?_
    refine W.widen (k := 1) (n := 6) (Nat.le_of_ble_eq_true rfl) (Nat.le_of_ble_eq_true rfl) ?_
    exact k_iret hx hb hr hlocks hW dW_unrolled_19 h
  · skip
    obtain ⟨Px1, g2, h⟩ := h
    refine k_catch (As := [.int (iI p1)]) (rest := [.int (iI 0), .ref (ad 26)]) S (t_P_unrolled l htr dC dI ad kc nn σ p1 g2) (cwV 1 hts (gV mw_539 mw_540 mw_541 mw_1 k_P_unrolled) rfl rfl rfl (by decide +kernel) ⟨Nat.le_of_ble_eq_true rfl, Nat.le_of_ble_eq_true rfl⟩) ⟨kPt.blind, va_recv hK hW.1 (ci := 0) (q0 := 0) rfl rfl, fun U hU hWm => ⟨rfl, by rw [hU]; exact hW.1, va_K.moved hWm.alike hK, hN.warm hWm, by rw [hU]; exact hst.warm hWm⟩⟩ hW rfl hl.1 rfl (Nat.le_of_ble_eq_true rfl) dW_unrolled_4 ⟨Nat.le_of_ble_eq_true rfl, Nat.le_of_ble_eq_true rfl⟩ (fun k => if k = 0 then 12 else 15) (fun k hpx T' X' x ce q1 q2 q3 => ?_) (fun k x H hpx hW => ?_)
    · rcases h k hpx with ⟨rfl, -⟩ | ⟨rfl, -⟩
      · exact kFind1h X' hown rfl q1 q2 q3 hh ⟨Nat.le_of_ble_eq_true rfl, Nat.le_of_ble_eq_true rfl⟩ (by decide) (hts _ (gG_in mw_322)) (hst.1 _ _ cs_0)
      · exact kFind2h X' hown rfl q1 q2 q3 hh ⟨Nat.le_of_ble_eq_true rfl, Nat.le_of_ble_eq_true rfl⟩ (by decide) (hts _ (gG_in mw_322)) (hst.2.2.2.1 (exC 2, exC 0) (by decide +kernel)) ⟨Nat.le_of_ble_eq_true rfl, Nat.le_of_ble_eq_true rfl⟩ (by decide) (hts _ (gG_in mw_483)) (hst.1 _ _ cs_2)
    · rcases h k hpx with ⟨rfl, h⟩ | ⟨rfl, h⟩
      · skip
        refine lv_astore_n (lv' := [(3, .ref x), (0, .ref (ad 0)), (1, .int (iI p1)), (2, .ref (ad 26))]) hx hb dW_unrolled_12 rfl hl (by decide) rfl (fun ls hl => ?_)
        refine lv_iconst (v := iI 1) hx hb dW_unrolled_13 rfl ?_
        refine W.widen (k := 1) (n := 6) (Nat.le_of_ble_eq_true rfl) (Nat.le_of_ble_eq_true rfl) ?_
        exact k_iret hx hb hr hlocks hW dW_unrolled_14 h
      · skip
        refine lv_astore_n (lv' := [(3, .ref x), (0, .ref (ad 0)), (1, .int (iI p1)), (2, .ref (ad 26))]) hx hb dW_unrolled_15 rfl hl (by decide) rfl (fun ls hl => ?_)
        refine lv_iconst (v := iI 2) hx hb dW_unrolled_16 rfl ?_
        refine W.widen (k := 1) (n := 6) (Nat.le_of_ble_eq_true rfl) (Nat.le_of_ble_eq_true rfl) ?_
        exact k_iret hx hb hr hlocks hW dW_unrolled_17 h
abbrev ws_W_leaf : List Cond := .codeWith y_W_leaf b_W_leaf 5 (some .int) [(0, 10, 13, 27), (0, 10, 17, 32)] :: gG
set_option maxRecDepth 20000 in
theorem k_W_leaf : Cond.codeWith y_W_leaf b_W_leaf 5 (some .int) [(0, 10, 13, 27), (0, 10, 17, 32)] ∈ gG := gG_of (List.mem_of_getElem? (i := 584) rfl) rfl
abbrev rm_W_leaf : Room := { frames := 7, cells := 1, slots := 6, locals := 104 }
set_option maxHeartbeats 4000000 in
set_option maxRecDepth 100000 in
theorem c_W_leaf (l : Launch) (htr : l.stackTraces = false) (dC : Nat → ClassId) (dI : Nat → Nat → Nat) (ad : Nat → Nat) (kc : Nat → ClassId) (nn : Nat → Nat) (σ : kM) (p1 : Int) (p2 : Int) {P : Int → kM → Prop} (h : wp_W_leaf nn σ p1 p2 P) : kMh l y_W_leaf ws_W_leaf rm_W_leaf (dC, dI) vwC (tyC kc) (wC ad kc nn) nsG σ [.ref (ad 0), .int (iI p1), .int (iI p2), .ref (ad 26)] P := by
  intro sz
  refine k_enterW (cc := b_W_leaf) (maxL := 5) (ret := (some .int)) (hs := [(0, 10, 13, 27), (0, 10, 17, 32)]) (by decide) rfl (Nat.le_of_ble_eq_true rfl) ?_
  intro p e s m below meth c ls S hr hlocks hh hA hW hK hN hst hl
  generalize va_A (wC ad kc nn σ) sz = A at hA hW ⊢
  generalize ([.ref (ad 0), .int (iI p1), .int (iI p2), .ref (ad 26)] : List Value).toArray = args at S ⊢
  obtain ⟨hx, hb, hml, hown, hts⟩ := id S
  have hl : lv_has ls 5 [(0, .ref (ad 0)), (1, .int (iI p1)), (2, .int (iI p2)), (3, .ref (ad 26))] := hl
  unfold wp_W_leaf at h
  refine lv_aload_n hx hb dW_leaf_0 rfl (lv_at hl 3 rfl) ?_
  refine lv_iconst (v := iI 0) hx hb dW_leaf_1 rfl ?_
  refine lv_aload_n hx hb dW_leaf_2 rfl (lv_at hl 0 rfl) ?_
  refine lv_iload_n hx hb dW_leaf_3 rfl (lv_at hl 1 rfl) ?_
  refine lv_iload_n hx hb dW_leaf_4 rfl (lv_at hl 2 rfl) ?_
  rcases h with h | h
  · skip
    obtain ⟨P1, g1, h⟩ := h
    refine kc_vi (As := [.int (iI p1), .int (iI p2)]) (rest := [.int (iI 0), .ref (ad 26)]) (ci := 0) (q0 := 0) S (c_P_leaf l dC dI ad kc nn σ p1 p2 g1) (cwV 2 hts (gV mw_561 mw_562 mw_563 mw_1 k_P_leaf) rfl rfl rfl (by decide +kernel) ⟨Nat.le_of_ble_eq_true rfl, Nat.le_of_ble_eq_true rfl⟩) hK hN hA hW (fun _ => rfl) rfl rfl rfl hl.1 rfl (Nat.le_of_ble_eq_true rfl) dW_leaf_5 ⟨Nat.zero_le _, Nat.zero_le _⟩ (fun r1 s1 H locs hp hW => ?_)
    have h := h r1 s1 hp
    obtain ⟨q1, h⟩ := h
    refine ki_i2l hx hb dW_leaf_8 q1 ?_
    obtain ⟨s2, es2⟩ : ∃ z : kM, z = va_up s1 26 (va_up (s1 26) 0 r1) := ⟨_, rfl⟩
    refine k_last (ws' := wC ad kc nn s2) hx hb hK hW 26 18 (s1 26) rfl rfl ⟨by decide, by decide, by decide⟩ (by rw [es2]; exact wC_a26 ..) dW_leaf_9 (fun H locs hW => ?_)
    have h := h s2 es2
    refine lv_goto (tgt := 21) hx hb dW_leaf_10 (by decide) ?_
    refine lv_iconst (v := iI 0) hx hb dW_leaf_21 rfl ?_
    refine W.widen (k := 1) (n := 6) (Nat.le_of_ble_eq_true rfl) (Nat.le_of_ble_eq_true rfl) ?_
    exact k_iret hx hb hr hlocks hW dW_leaf_22 h
  · skip
    obtain ⟨Px1, g2, h⟩ := h
    refine k_catch (As := [.int (iI p1), .int (iI p2)]) (rest := [.int (iI 0), .ref (ad 26)]) S (t_P_leaf l htr dC dI ad kc nn σ p1 p2 g2) (cwV 2 hts (gV mw_561 mw_562 mw_563 mw_1 k_P_leaf) rfl rfl rfl (by decide +kernel) ⟨Nat.le_of_ble_eq_true rfl, Nat.le_of_ble_eq_true rfl⟩) ⟨kPt.blind, va_recv hK hW.1 (ci := 0) (q0 := 0) rfl rfl, fun U hU hWm => ⟨rfl, by rw [hU]; exact hW.1, va_K.moved hWm.alike hK, hN.warm hWm, by rw [hU]; exact hst.warm hWm⟩⟩ hW rfl hl.1 rfl (Nat.le_of_ble_eq_true rfl) dW_leaf_5 ⟨Nat.le_of_ble_eq_true rfl, Nat.le_of_ble_eq_true rfl⟩ (fun k => if k = 1 then 13 else 17) (fun k hpx T' X' x ce q1 q2 q3 => ?_) (fun k x H hpx hW => ?_)
    · rcases h k hpx with ⟨rfl, -⟩ | ⟨rfl, -⟩
      · exact kFind1h X' hown rfl q1 q2 q3 hh ⟨Nat.le_of_ble_eq_true rfl, Nat.le_of_ble_eq_true rfl⟩ (by decide) (hts _ (gG_in mw_450)) (hst.1 _ _ cs_1)
      · exact kFind2h X' hown rfl q1 q2 q3 hh ⟨Nat.le_of_ble_eq_true rfl, Nat.le_of_ble_eq_true rfl⟩ (by decide) (hts _ (gG_in mw_450)) (hst.2.2.2.1 (exC 2, exC 1) (by decide +kernel)) ⟨Nat.le_of_ble_eq_true rfl, Nat.le_of_ble_eq_true rfl⟩ (by decide) (hts _ (gG_in mw_483)) (hst.1 _ _ cs_2)
    · rcases h k hpx with ⟨rfl, h⟩ | ⟨rfl, h⟩
      · skip
        refine lv_astore (lv' := [(4, .ref x), (0, .ref (ad 0)), (1, .int (iI p1)), (2, .int (iI p2)), (3, .ref (ad 26))]) hx hb dW_leaf_13 hl (by decide) rfl (fun ls hl => ?_)
        refine lv_iconst (v := iI 1) hx hb dW_leaf_15 rfl ?_
        refine W.widen (k := 1) (n := 6) (Nat.le_of_ble_eq_true rfl) (Nat.le_of_ble_eq_true rfl) ?_
        exact k_iret hx hb hr hlocks hW dW_leaf_16 h
      · skip
        refine lv_astore (lv' := [(4, .ref x), (0, .ref (ad 0)), (1, .int (iI p1)), (2, .int (iI p2)), (3, .ref (ad 26))]) hx hb dW_leaf_17 hl (by decide) rfl (fun ls hl => ?_)
        refine lv_iconst (v := iI 2) hx hb dW_leaf_19 rfl ?_
        refine W.widen (k := 1) (n := 6) (Nat.le_of_ble_eq_true rfl) (Nat.le_of_ble_eq_true rfl) ?_
        exact k_iret hx hb hr hlocks hW dW_leaf_20 h
abbrev ws_W_bars : List Cond := .codeWith y_W_bars b_W_bars 6 (some .int) [(0, 19, 22, 13)] :: gG
set_option maxRecDepth 20000 in
theorem k_W_bars : Cond.codeWith y_W_bars b_W_bars 6 (some .int) [(0, 19, 22, 13)] ∈ gG := gG_of (List.mem_of_getElem? (i := 602) rfl) rfl
abbrev rm_W_bars : Room := { frames := 7, cells := 1, slots := 6, locals := 106 }
set_option maxHeartbeats 4000000 in
set_option maxRecDepth 100000 in
theorem c_W_bars (l : Launch) (htr : l.stackTraces = false) (dC : Nat → ClassId) (dI : Nat → Nat → Nat) (ad : Nat → Nat) (kc : Nat → ClassId) (nn : Nat → Nat) (σ : kM) (p1 : Int) (p2 : Int) (p3 : Int) {P : Int → kM → Prop} (h : wp_W_bars nn σ p1 p2 p3 P) : kMh l y_W_bars ws_W_bars rm_W_bars (dC, dI) vwC (tyC kc) (wC ad kc nn) nsG σ [.ref (ad 0), .int (iI p1), .int (iI p2), .int (iI p3), .ref (ad 26)] P := by
  intro sz
  refine k_enterW (cc := b_W_bars) (maxL := 6) (ret := (some .int)) (hs := [(0, 19, 22, 13)]) (by decide) rfl (Nat.le_of_ble_eq_true rfl) ?_
  intro p e s m below meth c ls S hr hlocks hh hA hW hK hN hst hl
  generalize va_A (wC ad kc nn σ) sz = A at hA hW ⊢
  generalize ([.ref (ad 0), .int (iI p1), .int (iI p2), .int (iI p3), .ref (ad 26)] : List Value).toArray = args at S ⊢
  obtain ⟨hx, hb, hml, hown, hts⟩ := id S
  have hl : lv_has ls 6 [(0, .ref (ad 0)), (1, .int (iI p1)), (2, .int (iI p2)), (3, .int (iI p3)), (4, .ref (ad 26))] := hl
  unfold wp_W_bars at h
  refine lv_aload hx hb dW_bars_0 (lv_at hl 4 rfl) ?_
  refine lv_iconst (v := iI 0) hx hb dW_bars_2 rfl ?_
  refine lv_aload_n hx hb dW_bars_3 rfl (lv_at hl 0 rfl) ?_
  refine lv_iload_n hx hb dW_bars_4 rfl (lv_at hl 1 rfl) ?_
  refine lv_iload_n hx hb dW_bars_5 rfl (lv_at hl 2 rfl) ?_
  refine lv_iload_n hx hb dW_bars_6 rfl (lv_at hl 3 rfl) ?_
  rcases h with h | h
  · skip
    obtain ⟨P1, g1, h⟩ := h
    refine kc_vi (As := [.int (iI p1), .int (iI p2), .int (iI p3)]) (rest := [.int (iI 0), .ref (ad 26)]) (ci := 0) (q0 := 0) S (c_P_bars l dC dI ad kc nn σ p1 p2 p3 g1) (cwV 3 hts (gV mw_579 mw_580 mw_581 mw_1 k_P_bars) rfl rfl rfl (by decide +kernel) ⟨Nat.le_of_ble_eq_true rfl, Nat.le_of_ble_eq_true rfl⟩) hK hN hA hW (fun _ => rfl) rfl rfl rfl hl.1 rfl (Nat.le_of_ble_eq_true rfl) dW_bars_7 ⟨Nat.zero_le _, Nat.zero_le _⟩ (fun r1 s1 H locs hp hW => ?_)
    have h := h r1 s1 hp
    obtain ⟨q1, h⟩ := h
    have jW1 : ∀ (v1 : Int) (H : Heap) (locs : List Loc) (ls : Array Slot), kW (dC, dI) vwC A s.heap (wC ad kc nn s1) H locs → lv_has ls 6 [] → jn_W_bars_18 nn P s1 v1 → W p l e (headSpec ws_W_bars rm_W_bars).room s m args below meth c H locs 0 0 (MQ below (kQi (dC, dI) vwC (wC ad kc nn) P A) args s 1 6 A) (F0 m 18 ls [.long (lI v1), .int (iI 0), .ref (ad 26)]) := by
      intro v1 H locs ls hW hl h
      unfold jn_W_bars_18 at h
      obtain ⟨s2, es2⟩ : ∃ z : kM, z = va_up s1 26 (va_up (s1 26) 0 v1) := ⟨_, rfl⟩
      refine k_last (ws' := wC ad kc nn s2) hx hb hK hW 26 18 (s1 26) rfl rfl ⟨by decide, by decide, by decide⟩ (by rw [es2]; exact wC_a26 ..) dW_bars_18 (fun H locs hW => ?_)
      have h := h s2 es2
      refine lv_goto (tgt := 26) hx hb dW_bars_19 (by decide) ?_
      refine lv_iconst (v := iI 0) hx hb dW_bars_26 rfl ?_
      refine W.widen (k := 1) (n := 6) (Nat.le_of_ble_eq_true rfl) (Nat.le_of_ble_eq_true rfl) ?_
      exact k_iret hx hb hr hlocks hW dW_bars_27 h
    obtain ⟨ht, hf⟩ := h
    refine ki_if_eq (tgt := 17) hx hb dW_bars_10 (by decide) q1 (fun c1 => ?_) (fun c1 => ?_)
    · have h := ht c1
      refine lv_lconst (v := lI 0) hx hb dW_bars_17 (by decide) ?_
      exact jW1 0 _ _ ls hW (lv_sub hl [] rfl) h
    · have h := hf c1
      refine lv_lconst (v := lI 1) hx hb dW_bars_13 (by decide) ?_
      refine lv_goto (tgt := 18) hx hb dW_bars_14 (by decide) ?_
      exact jW1 1 _ _ ls hW (lv_sub hl [] rfl) h
  · skip
    obtain ⟨Px1, g2, h⟩ := h
    refine k_catch (As := [.int (iI p1), .int (iI p2), .int (iI p3)]) (rest := [.int (iI 0), .ref (ad 26)]) S (t_P_bars l htr dC dI ad kc nn σ p1 p2 p3 g2) (cwV 3 hts (gV mw_579 mw_580 mw_581 mw_1 k_P_bars) rfl rfl rfl (by decide +kernel) ⟨Nat.le_of_ble_eq_true rfl, Nat.le_of_ble_eq_true rfl⟩) ⟨kPt.blind, va_recv hK hW.1 (ci := 0) (q0 := 0) rfl rfl, fun U hU hWm => ⟨rfl, by rw [hU]; exact hW.1, va_K.moved hWm.alike hK, hN.warm hWm, by rw [hU]; exact hst.warm hWm⟩⟩ hW rfl hl.1 rfl (Nat.le_of_ble_eq_true rfl) dW_bars_7 ⟨Nat.le_of_ble_eq_true rfl, Nat.le_of_ble_eq_true rfl⟩ (fun _ => 22) (fun k hpx T' X' x ce q1 q2 q3 => ?_) (fun k x H hpx hW => ?_)
    · obtain ⟨rfl, -⟩ := h k hpx
      exact kFind1h X' hown rfl q1 q2 q3 hh ⟨Nat.le_of_ble_eq_true rfl, Nat.le_of_ble_eq_true rfl⟩ (by decide) (hts _ (gG_in mw_322)) (hst.1 _ _ cs_0)
    · obtain ⟨rfl, h⟩ := h k hpx
      refine lv_astore (lv' := [(5, .ref x), (0, .ref (ad 0)), (1, .int (iI p1)), (2, .int (iI p2)), (3, .int (iI p3)), (4, .ref (ad 26))]) hx hb dW_bars_22 hl (by decide) rfl (fun ls hl => ?_)
      refine lv_iconst (v := iI 1) hx hb dW_bars_24 rfl ?_
      refine W.widen (k := 1) (n := 6) (Nat.le_of_ble_eq_true rfl) (Nat.le_of_ble_eq_true rfl) ?_
      exact k_iret hx hb hr hlocks hW dW_bars_25 h
abbrev ws_W_clip : List Cond := .codeWith y_W_clip b_W_clip 4 (some .int) [(0, 9, 12, 27), (0, 9, 15, 32)] :: gG
set_option maxRecDepth 20000 in
theorem k_W_clip : Cond.codeWith y_W_clip b_W_clip 4 (some .int) [(0, 9, 12, 27), (0, 9, 15, 32)] ∈ gG := gG_of (List.mem_of_getElem? (i := 623) rfl) rfl
abbrev rm_W_clip : Room := { frames := 7, cells := 1, slots := 6, locals := 158 }
set_option maxHeartbeats 4000000 in
set_option maxRecDepth 100000 in
theorem c_W_clip (l : Launch) (htr : l.stackTraces = false) (dC : Nat → ClassId) (dI : Nat → Nat → Nat) (ad : Nat → Nat) (kc : Nat → ClassId) (nn : Nat → Nat) (σ : kM) (p1 : Int) {P : Int → kM → Prop} (h : wp_W_clip nn σ p1 P) : kMh l y_W_clip ws_W_clip rm_W_clip (dC, dI) vwC (tyC kc) (wC ad kc nn) nsG σ [.ref (ad 0), .int (iI p1), .ref (ad 26)] P := by
  intro sz
  refine k_enterW (cc := b_W_clip) (maxL := 4) (ret := (some .int)) (hs := [(0, 9, 12, 27), (0, 9, 15, 32)]) (by decide) rfl (Nat.le_of_ble_eq_true rfl) ?_
  intro p e s m below meth c ls S hr hlocks hh hA hW hK hN hst hl
  generalize va_A (wC ad kc nn σ) sz = A at hA hW ⊢
  generalize ([.ref (ad 0), .int (iI p1), .ref (ad 26)] : List Value).toArray = args at S ⊢
  obtain ⟨hx, hb, hml, hown, hts⟩ := id S
  have hl : lv_has ls 4 [(0, .ref (ad 0)), (1, .int (iI p1)), (2, .ref (ad 26))] := hl
  unfold wp_W_clip at h
  refine lv_aload_n hx hb dW_clip_0 rfl (lv_at hl 2 rfl) ?_
  refine lv_iconst (v := iI 0) hx hb dW_clip_1 rfl ?_
  refine lv_aload_n hx hb dW_clip_2 rfl (lv_at hl 0 rfl) ?_
  refine lv_iload_n hx hb dW_clip_3 rfl (lv_at hl 1 rfl) ?_
  rcases h with h | h
  · skip
    obtain ⟨P1, g1, h⟩ := h
    refine kc_vi (As := [.int (iI p1)]) (rest := [.int (iI 0), .ref (ad 26)]) (ci := 0) (q0 := 0) S (c_P_clip l dC dI ad kc nn σ p1 g1) (cwV 1 hts (gV mw_600 mw_601 mw_602 mw_1 k_P_clip) rfl rfl rfl (by decide +kernel) ⟨Nat.le_of_ble_eq_true rfl, Nat.le_of_ble_eq_true rfl⟩) hK hN hA hW (fun _ => rfl) rfl rfl rfl hl.1 rfl (Nat.le_of_ble_eq_true rfl) dW_clip_4 ⟨Nat.zero_le _, Nat.zero_le _⟩ (fun r1 s1 H locs hp hW => ?_)
    have h := h r1 s1 hp
    obtain ⟨q1, h⟩ := h
    refine ki_i2l hx hb dW_clip_7 q1 ?_
    obtain ⟨s2, es2⟩ : ∃ z : kM, z = va_up s1 26 (va_up (s1 26) 0 r1) := ⟨_, rfl⟩
    refine k_last (ws' := wC ad kc nn s2) hx hb hK hW 26 18 (s1 26) rfl rfl ⟨by decide, by decide, by decide⟩ (by rw [es2]; exact wC_a26 ..) dW_clip_8 (fun H locs hW => ?_)
    have h := h s2 es2
    refine lv_goto (tgt := 18) hx hb dW_clip_9 (by decide) ?_
    refine lv_iconst (v := iI 0) hx hb dW_clip_18 rfl ?_
    refine W.widen (k := 1) (n := 6) (Nat.le_of_ble_eq_true rfl) (Nat.le_of_ble_eq_true rfl) ?_
    exact k_iret hx hb hr hlocks hW dW_clip_19 h
  · skip
    obtain ⟨Px1, g2, h⟩ := h
    refine k_catch (As := [.int (iI p1)]) (rest := [.int (iI 0), .ref (ad 26)]) S (t_P_clip l htr dC dI ad kc nn σ p1 g2) (cwV 1 hts (gV mw_600 mw_601 mw_602 mw_1 k_P_clip) rfl rfl rfl (by decide +kernel) ⟨Nat.le_of_ble_eq_true rfl, Nat.le_of_ble_eq_true rfl⟩) ⟨kPt.blind, va_recv hK hW.1 (ci := 0) (q0 := 0) rfl rfl, fun U hU hWm => ⟨rfl, by rw [hU]; exact hW.1, va_K.moved hWm.alike hK, hN.warm hWm, by rw [hU]; exact hst.warm hWm⟩⟩ hW rfl hl.1 rfl (Nat.le_of_ble_eq_true rfl) dW_clip_4 ⟨Nat.le_of_ble_eq_true rfl, Nat.le_of_ble_eq_true rfl⟩ (fun k => if k = 1 then 12 else 15) (fun k hpx T' X' x ce q1 q2 q3 => ?_) (fun k x H hpx hW => ?_)
    · rcases h k hpx with ⟨rfl, -⟩ | ⟨rfl, -⟩
      · exact kFind1h X' hown rfl q1 q2 q3 hh ⟨Nat.le_of_ble_eq_true rfl, Nat.le_of_ble_eq_true rfl⟩ (by decide) (hts _ (gG_in mw_450)) (hst.1 _ _ cs_1)
      · exact kFind2h X' hown rfl q1 q2 q3 hh ⟨Nat.le_of_ble_eq_true rfl, Nat.le_of_ble_eq_true rfl⟩ (by decide) (hts _ (gG_in mw_450)) (hst.2.2.2.1 (exC 2, exC 1) (by decide +kernel)) ⟨Nat.le_of_ble_eq_true rfl, Nat.le_of_ble_eq_true rfl⟩ (by decide) (hts _ (gG_in mw_483)) (hst.1 _ _ cs_2)
    · rcases h k hpx with ⟨rfl, h⟩ | ⟨rfl, h⟩
      · skip
        refine lv_astore_n (lv' := [(3, .ref x), (0, .ref (ad 0)), (1, .int (iI p1)), (2, .ref (ad 26))]) hx hb dW_clip_12 rfl hl (by decide) rfl (fun ls hl => ?_)
        refine lv_iconst (v := iI 1) hx hb dW_clip_13 rfl ?_
        refine W.widen (k := 1) (n := 6) (Nat.le_of_ble_eq_true rfl) (Nat.le_of_ble_eq_true rfl) ?_
        exact k_iret hx hb hr hlocks hW dW_clip_14 h
      · skip
        refine lv_astore_n (lv' := [(3, .ref x), (0, .ref (ad 0)), (1, .int (iI p1)), (2, .ref (ad 26))]) hx hb dW_clip_15 rfl hl (by decide) rfl (fun ls hl => ?_)
        refine lv_iconst (v := iI 2) hx hb dW_clip_16 rfl ?_
        refine W.widen (k := 1) (n := 6) (Nat.le_of_ble_eq_true rfl) (Nat.le_of_ble_eq_true rfl) ?_
        exact k_iret hx hb hr hlocks hW dW_clip_17 h
abbrev ws_W_at : List Cond := .codeWith y_W_at b_W_at 5 (some .int) [(0, 10, 13, 32), (0, 10, 17, 13)] :: gG
set_option maxRecDepth 20000 in
theorem k_W_at : Cond.codeWith y_W_at b_W_at 5 (some .int) [(0, 10, 13, 32), (0, 10, 17, 13)] ∈ gG := gG_of (List.mem_of_getElem? (i := 688) rfl) rfl
abbrev rm_W_at : Room := { frames := 7, cells := 1, slots := 6, locals := 104 }
set_option maxHeartbeats 4000000 in
set_option maxRecDepth 100000 in
theorem c_W_at (l : Launch) (htr : l.stackTraces = false) (dC : Nat → ClassId) (dI : Nat → Nat → Nat) (ad : Nat → Nat) (kc : Nat → ClassId) (nn : Nat → Nat) (σ : kM) (p1 : Int) (p2 : Int) {P : Int → kM → Prop} (h : wp_W_at nn σ p1 p2 P) : kMh l y_W_at ws_W_at rm_W_at (dC, dI) vwC (tyC kc) (wC ad kc nn) nsG σ [.ref (ad 0), .int (iI p1), .int (iI p2), .ref (ad 26)] P := by
  intro sz
  refine k_enterW (cc := b_W_at) (maxL := 5) (ret := (some .int)) (hs := [(0, 10, 13, 32), (0, 10, 17, 13)]) (by decide) rfl (Nat.le_of_ble_eq_true rfl) ?_
  intro p e s m below meth c ls S hr hlocks hh hA hW hK hN hst hl
  generalize va_A (wC ad kc nn σ) sz = A at hA hW ⊢
  generalize ([.ref (ad 0), .int (iI p1), .int (iI p2), .ref (ad 26)] : List Value).toArray = args at S ⊢
  obtain ⟨hx, hb, hml, hown, hts⟩ := id S
  have hl : lv_has ls 5 [(0, .ref (ad 0)), (1, .int (iI p1)), (2, .int (iI p2)), (3, .ref (ad 26))] := hl
  unfold wp_W_at at h
  refine lv_aload_n hx hb dW_at_0 rfl (lv_at hl 3 rfl) ?_
  refine lv_iconst (v := iI 0) hx hb dW_at_1 rfl ?_
  refine lv_aload_n hx hb dW_at_2 rfl (lv_at hl 0 rfl) ?_
  refine lv_iload_n hx hb dW_at_3 rfl (lv_at hl 1 rfl) ?_
  refine lv_iload_n hx hb dW_at_4 rfl (lv_at hl 2 rfl) ?_
  rcases h with h | h
  · skip
    obtain ⟨P1, g1, h⟩ := h
    refine kc_vi (As := [.int (iI p1), .int (iI p2)]) (rest := [.int (iI 0), .ref (ad 26)]) (ci := 0) (q0 := 0) S (c_P_at l dC dI ad kc nn σ p1 p2 g1) (cwV 2 hts (gV mw_665 mw_666 mw_667 mw_1 k_P_at) rfl rfl rfl (by decide +kernel) ⟨Nat.le_of_ble_eq_true rfl, Nat.le_of_ble_eq_true rfl⟩) hK hN hA hW (fun _ => rfl) rfl rfl rfl hl.1 rfl (Nat.le_of_ble_eq_true rfl) dW_at_5 ⟨Nat.zero_le _, Nat.zero_le _⟩ (fun r1 s1 H locs hp hW => ?_)
    have h := h r1 s1 hp
    obtain ⟨q1, h⟩ := h
    refine ki_i2l hx hb dW_at_8 q1 ?_
    obtain ⟨s2, es2⟩ : ∃ z : kM, z = va_up s1 26 (va_up (s1 26) 0 r1) := ⟨_, rfl⟩
    refine k_last (ws' := wC ad kc nn s2) hx hb hK hW 26 18 (s1 26) rfl rfl ⟨by decide, by decide, by decide⟩ (by rw [es2]; exact wC_a26 ..) dW_at_9 (fun H locs hW => ?_)
    have h := h s2 es2
    refine lv_goto (tgt := 21) hx hb dW_at_10 (by decide) ?_
    refine lv_iconst (v := iI 0) hx hb dW_at_21 rfl ?_
    refine W.widen (k := 1) (n := 6) (Nat.le_of_ble_eq_true rfl) (Nat.le_of_ble_eq_true rfl) ?_
    exact k_iret hx hb hr hlocks hW dW_at_22 h
  · skip
    obtain ⟨Px1, g2, h⟩ := h
    refine k_catch (As := [.int (iI p1), .int (iI p2)]) (rest := [.int (iI 0), .ref (ad 26)]) S (t_P_at l htr dC dI ad kc nn σ p1 p2 g2) (cwV 2 hts (gV mw_665 mw_666 mw_667 mw_1 k_P_at) rfl rfl rfl (by decide +kernel) ⟨Nat.le_of_ble_eq_true rfl, Nat.le_of_ble_eq_true rfl⟩) ⟨kPt.blind, va_recv hK hW.1 (ci := 0) (q0 := 0) rfl rfl, fun U hU hWm => ⟨rfl, by rw [hU]; exact hW.1, va_K.moved hWm.alike hK, hN.warm hWm, by rw [hU]; exact hst.warm hWm⟩⟩ hW rfl hl.1 rfl (Nat.le_of_ble_eq_true rfl) dW_at_5 ⟨Nat.le_of_ble_eq_true rfl, Nat.le_of_ble_eq_true rfl⟩ (fun k => if k = 2 then 13 else 17) (fun k hpx T' X' x ce q1 q2 q3 => ?_) (fun k x H hpx hW => ?_)
    · rcases h k hpx with ⟨rfl, -⟩ | ⟨rfl, -⟩
      · exact kFind1h X' hown rfl q1 q2 q3 hh ⟨Nat.le_of_ble_eq_true rfl, Nat.le_of_ble_eq_true rfl⟩ (by decide) (hts _ (gG_in mw_483)) (hst.1 _ _ cs_2)
      · exact kFind2h X' hown rfl q1 q2 q3 hh ⟨Nat.le_of_ble_eq_true rfl, Nat.le_of_ble_eq_true rfl⟩ (by decide) (hts _ (gG_in mw_483)) (hst.2.2.2.1 (exC 0, exC 2) (by decide +kernel)) ⟨Nat.le_of_ble_eq_true rfl, Nat.le_of_ble_eq_true rfl⟩ (by decide) (hts _ (gG_in mw_322)) (hst.1 _ _ cs_0)
    · rcases h k hpx with ⟨rfl, h⟩ | ⟨rfl, h⟩
      · skip
        refine lv_astore (lv' := [(4, .ref x), (0, .ref (ad 0)), (1, .int (iI p1)), (2, .int (iI p2)), (3, .ref (ad 26))]) hx hb dW_at_13 hl (by decide) rfl (fun ls hl => ?_)
        refine lv_iconst (v := iI 1) hx hb dW_at_15 rfl ?_
        refine W.widen (k := 1) (n := 6) (Nat.le_of_ble_eq_true rfl) (Nat.le_of_ble_eq_true rfl) ?_
        exact k_iret hx hb hr hlocks hW dW_at_16 h
      · skip
        refine lv_astore (lv' := [(4, .ref x), (0, .ref (ad 0)), (1, .int (iI p1)), (2, .int (iI p2)), (3, .ref (ad 26))]) hx hb dW_at_17 hl (by decide) rfl (fun ls hl => ?_)
        refine lv_iconst (v := iI 2) hx hb dW_at_19 rfl ?_
        refine W.widen (k := 1) (n := 6) (Nat.le_of_ble_eq_true rfl) (Nat.le_of_ble_eq_true rfl) ?_
        exact k_iret hx hb hr hlocks hW dW_at_20 h
abbrev ws_W_clipped : List Cond := .codeWith y_W_clipped b_W_clipped 4 (some .int) [(0, 9, 12, 32), (0, 9, 15, 13)] :: gG
set_option maxRecDepth 20000 in
theorem k_W_clipped : Cond.codeWith y_W_clipped b_W_clipped 4 (some .int) [(0, 9, 12, 32), (0, 9, 15, 13)] ∈ gG := gG_of (List.mem_of_getElem? (i := 709) rfl) rfl
abbrev rm_W_clipped : Room := { frames := 7, cells := 1, slots := 6, locals := 103 }
set_option maxHeartbeats 4000000 in
set_option maxRecDepth 100000 in
theorem c_W_clipped (l : Launch) (htr : l.stackTraces = false) (dC : Nat → ClassId) (dI : Nat → Nat → Nat) (ad : Nat → Nat) (kc : Nat → ClassId) (nn : Nat → Nat) (σ : kM) (p1 : Int) {P : Int → kM → Prop} (h : wp_W_clipped nn σ p1 P) : kMh l y_W_clipped ws_W_clipped rm_W_clipped (dC, dI) vwC (tyC kc) (wC ad kc nn) nsG σ [.ref (ad 0), .int (iI p1), .ref (ad 26)] P := by
  intro sz
  refine k_enterW (cc := b_W_clipped) (maxL := 4) (ret := (some .int)) (hs := [(0, 9, 12, 32), (0, 9, 15, 13)]) (by decide) rfl (Nat.le_of_ble_eq_true rfl) ?_
  intro p e s m below meth c ls S hr hlocks hh hA hW hK hN hst hl
  generalize va_A (wC ad kc nn σ) sz = A at hA hW ⊢
  generalize ([.ref (ad 0), .int (iI p1), .ref (ad 26)] : List Value).toArray = args at S ⊢
  obtain ⟨hx, hb, hml, hown, hts⟩ := id S
  have hl : lv_has ls 4 [(0, .ref (ad 0)), (1, .int (iI p1)), (2, .ref (ad 26))] := hl
  unfold wp_W_clipped at h
  refine lv_aload_n hx hb dW_clipped_0 rfl (lv_at hl 2 rfl) ?_
  refine lv_iconst (v := iI 0) hx hb dW_clipped_1 rfl ?_
  refine lv_aload_n hx hb dW_clipped_2 rfl (lv_at hl 0 rfl) ?_
  refine lv_iload_n hx hb dW_clipped_3 rfl (lv_at hl 1 rfl) ?_
  rcases h with h | h
  · skip
    obtain ⟨P1, g1, h⟩ := h
    refine kc_vi (As := [.int (iI p1)]) (rest := [.int (iI 0), .ref (ad 26)]) (ci := 0) (q0 := 0) S (c_P_clipped l dC dI ad kc nn σ p1 g1) (cwV 1 hts (gV mw_686 mw_687 mw_688 mw_1 k_P_clipped) rfl rfl rfl (by decide +kernel) ⟨Nat.le_of_ble_eq_true rfl, Nat.le_of_ble_eq_true rfl⟩) hK hN hA hW (fun _ => rfl) rfl rfl rfl hl.1 rfl (Nat.le_of_ble_eq_true rfl) dW_clipped_4 ⟨Nat.zero_le _, Nat.zero_le _⟩ (fun r1 s1 H locs hp hW => ?_)
    have h := h r1 s1 hp
    obtain ⟨q1, h⟩ := h
    refine ki_i2l hx hb dW_clipped_7 q1 ?_
    obtain ⟨s2, es2⟩ : ∃ z : kM, z = va_up s1 26 (va_up (s1 26) 0 r1) := ⟨_, rfl⟩
    refine k_last (ws' := wC ad kc nn s2) hx hb hK hW 26 18 (s1 26) rfl rfl ⟨by decide, by decide, by decide⟩ (by rw [es2]; exact wC_a26 ..) dW_clipped_8 (fun H locs hW => ?_)
    have h := h s2 es2
    refine lv_goto (tgt := 18) hx hb dW_clipped_9 (by decide) ?_
    refine lv_iconst (v := iI 0) hx hb dW_clipped_18 rfl ?_
    refine W.widen (k := 1) (n := 6) (Nat.le_of_ble_eq_true rfl) (Nat.le_of_ble_eq_true rfl) ?_
    exact k_iret hx hb hr hlocks hW dW_clipped_19 h
  · skip
    obtain ⟨Px1, g2, h⟩ := h
    refine k_catch (As := [.int (iI p1)]) (rest := [.int (iI 0), .ref (ad 26)]) S (t_P_clipped l htr dC dI ad kc nn σ p1 g2) (cwV 1 hts (gV mw_686 mw_687 mw_688 mw_1 k_P_clipped) rfl rfl rfl (by decide +kernel) ⟨Nat.le_of_ble_eq_true rfl, Nat.le_of_ble_eq_true rfl⟩) ⟨kPt.blind, va_recv hK hW.1 (ci := 0) (q0 := 0) rfl rfl, fun U hU hWm => ⟨rfl, by rw [hU]; exact hW.1, va_K.moved hWm.alike hK, hN.warm hWm, by rw [hU]; exact hst.warm hWm⟩⟩ hW rfl hl.1 rfl (Nat.le_of_ble_eq_true rfl) dW_clipped_4 ⟨Nat.le_of_ble_eq_true rfl, Nat.le_of_ble_eq_true rfl⟩ (fun k => if k = 2 then 12 else 15) (fun k hpx T' X' x ce q1 q2 q3 => ?_) (fun k x H hpx hW => ?_)
    · rcases h k hpx with ⟨rfl, -⟩ | ⟨rfl, -⟩
      · exact kFind1h X' hown rfl q1 q2 q3 hh ⟨Nat.le_of_ble_eq_true rfl, Nat.le_of_ble_eq_true rfl⟩ (by decide) (hts _ (gG_in mw_483)) (hst.1 _ _ cs_2)
      · exact kFind2h X' hown rfl q1 q2 q3 hh ⟨Nat.le_of_ble_eq_true rfl, Nat.le_of_ble_eq_true rfl⟩ (by decide) (hts _ (gG_in mw_483)) (hst.2.2.2.1 (exC 0, exC 2) (by decide +kernel)) ⟨Nat.le_of_ble_eq_true rfl, Nat.le_of_ble_eq_true rfl⟩ (by decide) (hts _ (gG_in mw_322)) (hst.1 _ _ cs_0)
    · rcases h k hpx with ⟨rfl, h⟩ | ⟨rfl, h⟩
      · skip
        refine lv_astore_n (lv' := [(3, .ref x), (0, .ref (ad 0)), (1, .int (iI p1)), (2, .ref (ad 26))]) hx hb dW_clipped_12 rfl hl (by decide) rfl (fun ls hl => ?_)
        refine lv_iconst (v := iI 1) hx hb dW_clipped_13 rfl ?_
        refine W.widen (k := 1) (n := 6) (Nat.le_of_ble_eq_true rfl) (Nat.le_of_ble_eq_true rfl) ?_
        exact k_iret hx hb hr hlocks hW dW_clipped_14 h
      · skip
        refine lv_astore_n (lv' := [(3, .ref x), (0, .ref (ad 0)), (1, .int (iI p1)), (2, .ref (ad 26))]) hx hb dW_clipped_15 rfl hl (by decide) rfl (fun ls hl => ?_)
        refine lv_iconst (v := iI 2) hx hb dW_clipped_16 rfl ?_
        refine W.widen (k := 1) (n := 6) (Nat.le_of_ble_eq_true rfl) (Nat.le_of_ble_eq_true rfl) ?_
        exact k_iret hx hb hr hlocks hW dW_clipped_17 h
abbrev ws_W_shrink : List Cond := .codeWith y_W_shrink b_W_shrink 6 (some .int) [(0, 12, 15, 13), (0, 12, 19, 27)] :: gG
set_option maxRecDepth 20000 in
theorem k_W_shrink : Cond.codeWith y_W_shrink b_W_shrink 6 (some .int) [(0, 12, 15, 13), (0, 12, 19, 27)] ∈ gG := gG_of (List.mem_of_getElem? (i := 729) rfl) rfl
abbrev rm_W_shrink : Room := { frames := 7, cells := 1, slots := 6, locals := 105 }
set_option maxHeartbeats 4000000 in
set_option maxRecDepth 100000 in
theorem c_W_shrink (l : Launch) (htr : l.stackTraces = false) (dC : Nat → ClassId) (dI : Nat → Nat → Nat) (ad : Nat → Nat) (kc : Nat → ClassId) (nn : Nat → Nat) (σ : kM) (p1 : Int) (p2 : Int) (p3 : Int) {P : Int → kM → Prop} (h : wp_W_shrink nn σ p1 p2 p3 P) : kMh l y_W_shrink ws_W_shrink rm_W_shrink (dC, dI) vwC (tyC kc) (wC ad kc nn) nsG σ [.ref (ad 0), .int (iI p1), .int (iI p2), .int (iI p3), .ref (ad 26)] P := by
  intro sz
  refine k_enterW (cc := b_W_shrink) (maxL := 6) (ret := (some .int)) (hs := [(0, 12, 15, 13), (0, 12, 19, 27)]) (by decide) rfl (Nat.le_of_ble_eq_true rfl) ?_
  intro p e s m below meth c ls S hr hlocks hh hA hW hK hN hst hl
  generalize va_A (wC ad kc nn σ) sz = A at hA hW ⊢
  generalize ([.ref (ad 0), .int (iI p1), .int (iI p2), .int (iI p3), .ref (ad 26)] : List Value).toArray = args at S ⊢
  obtain ⟨hx, hb, hml, hown, hts⟩ := id S
  have hl : lv_has ls 6 [(0, .ref (ad 0)), (1, .int (iI p1)), (2, .int (iI p2)), (3, .int (iI p3)), (4, .ref (ad 26))] := hl
  unfold wp_W_shrink at h
  refine lv_aload hx hb dW_shrink_0 (lv_at hl 4 rfl) ?_
  refine lv_iconst (v := iI 0) hx hb dW_shrink_2 rfl ?_
  refine lv_aload_n hx hb dW_shrink_3 rfl (lv_at hl 0 rfl) ?_
  refine lv_iload_n hx hb dW_shrink_4 rfl (lv_at hl 1 rfl) ?_
  refine lv_iload_n hx hb dW_shrink_5 rfl (lv_at hl 2 rfl) ?_
  refine lv_iload_n hx hb dW_shrink_6 rfl (lv_at hl 3 rfl) ?_
  rcases h with h | h
  · skip
    obtain ⟨P1, g1, h⟩ := h
    refine kc_vi (As := [.int (iI p1), .int (iI p2), .int (iI p3)]) (rest := [.int (iI 0), .ref (ad 26)]) (ci := 0) (q0 := 0) S (c_P_shrink l dC dI ad kc nn σ p1 p2 p3 g1) (cwV 3 hts (gV mw_706 mw_707 mw_708 mw_1 k_P_shrink) rfl rfl rfl (by decide +kernel) ⟨Nat.le_of_ble_eq_true rfl, Nat.le_of_ble_eq_true rfl⟩) hK hN hA hW (fun _ => rfl) rfl rfl rfl hl.1 rfl (Nat.le_of_ble_eq_true rfl) dW_shrink_7 ⟨Nat.zero_le _, Nat.zero_le _⟩ (fun r1 s1 H locs hp hW => ?_)
    have h := h r1 s1 hp
    obtain ⟨q1, h⟩ := h
    refine ki_i2l hx hb dW_shrink_10 q1 ?_
    obtain ⟨s2, es2⟩ : ∃ z : kM, z = va_up s1 26 (va_up (s1 26) 0 r1) := ⟨_, rfl⟩
    refine k_last (ws' := wC ad kc nn s2) hx hb hK hW 26 18 (s1 26) rfl rfl ⟨by decide, by decide, by decide⟩ (by rw [es2]; exact wC_a26 ..) dW_shrink_11 (fun H locs hW => ?_)
    have h := h s2 es2
    refine lv_goto (tgt := 23) hx hb dW_shrink_12 (by decide) ?_
    refine lv_iconst (v := iI 0) hx hb dW_shrink_23 rfl ?_
    refine W.widen (k := 1) (n := 6) (Nat.le_of_ble_eq_true rfl) (Nat.le_of_ble_eq_true rfl) ?_
    exact k_iret hx hb hr hlocks hW dW_shrink_24 h
  · skip
    obtain ⟨Px1, g2, h⟩ := h
    refine k_catch (As := [.int (iI p1), .int (iI p2), .int (iI p3)]) (rest := [.int (iI 0), .ref (ad 26)]) S (t_P_shrink l htr dC dI ad kc nn σ p1 p2 p3 g2) (cwV 3 hts (gV mw_706 mw_707 mw_708 mw_1 k_P_shrink) rfl rfl rfl (by decide +kernel) ⟨Nat.le_of_ble_eq_true rfl, Nat.le_of_ble_eq_true rfl⟩) ⟨kPt.blind, va_recv hK hW.1 (ci := 0) (q0 := 0) rfl rfl, fun U hU hWm => ⟨rfl, by rw [hU]; exact hW.1, va_K.moved hWm.alike hK, hN.warm hWm, by rw [hU]; exact hst.warm hWm⟩⟩ hW rfl hl.1 rfl (Nat.le_of_ble_eq_true rfl) dW_shrink_7 ⟨Nat.le_of_ble_eq_true rfl, Nat.le_of_ble_eq_true rfl⟩ (fun k => if k = 0 then 15 else 19) (fun k hpx T' X' x ce q1 q2 q3 => ?_) (fun k x H hpx hW => ?_)
    · rcases h k hpx with ⟨rfl, -⟩ | ⟨rfl, -⟩
      · exact kFind1h X' hown rfl q1 q2 q3 hh ⟨Nat.le_of_ble_eq_true rfl, Nat.le_of_ble_eq_true rfl⟩ (by decide) (hts _ (gG_in mw_322)) (hst.1 _ _ cs_0)
      · exact kFind2h X' hown rfl q1 q2 q3 hh ⟨Nat.le_of_ble_eq_true rfl, Nat.le_of_ble_eq_true rfl⟩ (by decide) (hts _ (gG_in mw_322)) (hst.2.2.2.1 (exC 1, exC 0) (by decide +kernel)) ⟨Nat.le_of_ble_eq_true rfl, Nat.le_of_ble_eq_true rfl⟩ (by decide) (hts _ (gG_in mw_450)) (hst.1 _ _ cs_1)
    · rcases h k hpx with ⟨rfl, h⟩ | ⟨rfl, h⟩
      · skip
        refine lv_astore (lv' := [(5, .ref x), (0, .ref (ad 0)), (1, .int (iI p1)), (2, .int (iI p2)), (3, .int (iI p3)), (4, .ref (ad 26))]) hx hb dW_shrink_15 hl (by decide) rfl (fun ls hl => ?_)
        refine lv_iconst (v := iI 1) hx hb dW_shrink_17 rfl ?_
        refine W.widen (k := 1) (n := 6) (Nat.le_of_ble_eq_true rfl) (Nat.le_of_ble_eq_true rfl) ?_
        exact k_iret hx hb hr hlocks hW dW_shrink_18 h
      · skip
        refine lv_astore (lv' := [(5, .ref x), (0, .ref (ad 0)), (1, .int (iI p1)), (2, .int (iI p2)), (3, .int (iI p3)), (4, .ref (ad 26))]) hx hb dW_shrink_19 hl (by decide) rfl (fun ls hl => ?_)
        refine lv_iconst (v := iI 2) hx hb dW_shrink_21 rfl ?_
        refine W.widen (k := 1) (n := 6) (Nat.le_of_ble_eq_true rfl) (Nat.le_of_ble_eq_true rfl) ?_
        exact k_iret hx hb hr hlocks hW dW_shrink_22 h
abbrev ws_W_row : List Cond := .codeWith y_W_row b_W_row 5 (some .int) [(0, 17, 20, 27)] :: gG
set_option maxRecDepth 20000 in
theorem k_W_row : Cond.codeWith y_W_row b_W_row 5 (some .int) [(0, 17, 20, 27)] ∈ gG := gG_of (List.mem_of_getElem? (i := 739) rfl) rfl
abbrev rm_W_row : Room := { frames := 7, cells := 1, slots := 6, locals := 104 }
set_option maxHeartbeats 4000000 in
set_option maxRecDepth 100000 in
theorem c_W_row (l : Launch) (htr : l.stackTraces = false) (dC : Nat → ClassId) (dI : Nat → Nat → Nat) (ad : Nat → Nat) (kc : Nat → ClassId) (nn : Nat → Nat) (σ : kM) (p1 : Int) (p2 : Int) {P : Int → kM → Prop} (h : wp_W_row nn σ p1 p2 P) : kMh l y_W_row ws_W_row rm_W_row (dC, dI) vwC (tyC kc) (wC ad kc nn) nsG σ [.ref (ad 0), .int (iI p1), .int (iI p2), .ref (ad 26)] P := by
  intro sz
  refine k_enterW (cc := b_W_row) (maxL := 5) (ret := (some .int)) (hs := [(0, 17, 20, 27)]) (by decide) rfl (Nat.le_of_ble_eq_true rfl) ?_
  intro p e s m below meth c ls S hr hlocks hh hA hW hK hN hst hl
  generalize va_A (wC ad kc nn σ) sz = A at hA hW ⊢
  generalize ([.ref (ad 0), .int (iI p1), .int (iI p2), .ref (ad 26)] : List Value).toArray = args at S ⊢
  obtain ⟨hx, hb, hml, hown, hts⟩ := id S
  have hl : lv_has ls 5 [(0, .ref (ad 0)), (1, .int (iI p1)), (2, .int (iI p2)), (3, .ref (ad 26))] := hl
  unfold wp_W_row at h
  refine lv_aload_n hx hb dW_row_0 rfl (lv_at hl 3 rfl) ?_
  refine lv_iconst (v := iI 0) hx hb dW_row_1 rfl ?_
  refine lv_aload_n hx hb dW_row_2 rfl (lv_at hl 0 rfl) ?_
  refine lv_iload_n hx hb dW_row_3 rfl (lv_at hl 1 rfl) ?_
  refine lv_iload_n hx hb dW_row_4 rfl (lv_at hl 2 rfl) ?_
  rcases h with h | h
  · skip
    obtain ⟨P1, g1, h⟩ := h
    refine kc_vi (As := [.int (iI p1), .int (iI p2)]) (rest := [.int (iI 0), .ref (ad 26)]) (ci := 0) (q0 := 0) S (c_P_row l dC dI ad kc nn σ p1 p2 g1) (cwV 2 hts (gV mw_716 mw_717 mw_718 mw_1 k_P_row) rfl rfl rfl (by decide +kernel) ⟨Nat.le_of_ble_eq_true rfl, Nat.le_of_ble_eq_true rfl⟩) hK hN hA hW (fun _ => rfl) rfl rfl rfl hl.1 rfl (Nat.le_of_ble_eq_true rfl) dW_row_5 ⟨Nat.zero_le _, Nat.zero_le _⟩ (fun r1 s1 H locs hp hW => ?_)
    have h := h r1 s1 hp
    obtain ⟨q1, h⟩ := h
    have jW1 : ∀ (v1 : Int) (H : Heap) (locs : List Loc) (ls : Array Slot), kW (dC, dI) vwC A s.heap (wC ad kc nn s1) H locs → lv_has ls 5 [] → jn_W_row_16 nn P s1 v1 → W p l e (headSpec ws_W_row rm_W_row).room s m args below meth c H locs 0 0 (MQ below (kQi (dC, dI) vwC (wC ad kc nn) P A) args s 1 6 A) (F0 m 16 ls [.long (lI v1), .int (iI 0), .ref (ad 26)]) := by
      intro v1 H locs ls hW hl h
      unfold jn_W_row_16 at h
      obtain ⟨s2, es2⟩ : ∃ z : kM, z = va_up s1 26 (va_up (s1 26) 0 v1) := ⟨_, rfl⟩
      refine k_last (ws' := wC ad kc nn s2) hx hb hK hW 26 18 (s1 26) rfl rfl ⟨by decide, by decide, by decide⟩ (by rw [es2]; exact wC_a26 ..) dW_row_16 (fun H locs hW => ?_)
      have h := h s2 es2
      refine lv_goto (tgt := 24) hx hb dW_row_17 (by decide) ?_
      refine lv_iconst (v := iI 0) hx hb dW_row_24 rfl ?_
      refine W.widen (k := 1) (n := 6) (Nat.le_of_ble_eq_true rfl) (Nat.le_of_ble_eq_true rfl) ?_
      exact k_iret hx hb hr hlocks hW dW_row_25 h
    obtain ⟨ht, hf⟩ := h
    refine ki_if_eq (tgt := 15) hx hb dW_row_8 (by decide) q1 (fun c1 => ?_) (fun c1 => ?_)
    · have h := ht c1
      refine lv_lconst (v := lI 0) hx hb dW_row_15 (by decide) ?_
      exact jW1 0 _ _ ls hW (lv_sub hl [] rfl) h
    · have h := hf c1
      refine lv_lconst (v := lI 1) hx hb dW_row_11 (by decide) ?_
      refine lv_goto (tgt := 16) hx hb dW_row_12 (by decide) ?_
      exact jW1 1 _ _ ls hW (lv_sub hl [] rfl) h
  · skip
    obtain ⟨Px1, g2, h⟩ := h
    refine k_catch (As := [.int (iI p1), .int (iI p2)]) (rest := [.int (iI 0), .ref (ad 26)]) S (t_P_row l htr dC dI ad kc nn σ p1 p2 g2) (cwV 2 hts (gV mw_716 mw_717 mw_718 mw_1 k_P_row) rfl rfl rfl (by decide +kernel) ⟨Nat.le_of_ble_eq_true rfl, Nat.le_of_ble_eq_true rfl⟩) ⟨kPt.blind, va_recv hK hW.1 (ci := 0) (q0 := 0) rfl rfl, fun U hU hWm => ⟨rfl, by rw [hU]; exact hW.1, va_K.moved hWm.alike hK, hN.warm hWm, by rw [hU]; exact hst.warm hWm⟩⟩ hW rfl hl.1 rfl (Nat.le_of_ble_eq_true rfl) dW_row_5 ⟨Nat.le_of_ble_eq_true rfl, Nat.le_of_ble_eq_true rfl⟩ (fun _ => 20) (fun k hpx T' X' x ce q1 q2 q3 => ?_) (fun k x H hpx hW => ?_)
    · obtain ⟨rfl, -⟩ := h k hpx
      exact kFind1h X' hown rfl q1 q2 q3 hh ⟨Nat.le_of_ble_eq_true rfl, Nat.le_of_ble_eq_true rfl⟩ (by decide) (hts _ (gG_in mw_450)) (hst.1 _ _ cs_1)
    · obtain ⟨rfl, h⟩ := h k hpx
      refine lv_astore (lv' := [(4, .ref x), (0, .ref (ad 0)), (1, .int (iI p1)), (2, .int (iI p2)), (3, .ref (ad 26))]) hx hb dW_row_20 hl (by decide) rfl (fun ls hl => ?_)
      refine lv_iconst (v := iI 1) hx hb dW_row_22 rfl ?_
      refine W.widen (k := 1) (n := 6) (Nat.le_of_ble_eq_true rfl) (Nat.le_of_ble_eq_true rfl) ?_
      exact k_iret hx hb hr hlocks hW dW_row_23 h
abbrev ws_W_knife : List Cond := .codeWith y_W_knife b_W_knife 4 (some .int) [(0, 9, 12, 27)] :: gG
set_option maxRecDepth 20000 in
theorem k_W_knife : Cond.codeWith y_W_knife b_W_knife 4 (some .int) [(0, 9, 12, 27)] ∈ gG := gG_of (List.mem_of_getElem? (i := 755) rfl) rfl
abbrev rm_W_knife : Room := { frames := 7, cells := 1, slots := 6, locals := 103 }
set_option maxHeartbeats 4000000 in
set_option maxRecDepth 100000 in
theorem c_W_knife (l : Launch) (htr : l.stackTraces = false) (dC : Nat → ClassId) (dI : Nat → Nat → Nat) (ad : Nat → Nat) (kc : Nat → ClassId) (nn : Nat → Nat) (σ : kM) (p1 : Int) {P : Int → kM → Prop} (h : wp_W_knife nn σ p1 P) : kMh l y_W_knife ws_W_knife rm_W_knife (dC, dI) vwC (tyC kc) (wC ad kc nn) nsG σ [.ref (ad 0), .int (iI p1), .ref (ad 26)] P := by
  intro sz
  refine k_enterW (cc := b_W_knife) (maxL := 4) (ret := (some .int)) (hs := [(0, 9, 12, 27)]) (by decide) rfl (Nat.le_of_ble_eq_true rfl) ?_
  intro p e s m below meth c ls S hr hlocks hh hA hW hK hN hst hl
  generalize va_A (wC ad kc nn σ) sz = A at hA hW ⊢
  generalize ([.ref (ad 0), .int (iI p1), .ref (ad 26)] : List Value).toArray = args at S ⊢
  obtain ⟨hx, hb, hml, hown, hts⟩ := id S
  have hl : lv_has ls 4 [(0, .ref (ad 0)), (1, .int (iI p1)), (2, .ref (ad 26))] := hl
  unfold wp_W_knife at h
  refine lv_aload_n hx hb dW_knife_0 rfl (lv_at hl 2 rfl) ?_
  refine lv_iconst (v := iI 0) hx hb dW_knife_1 rfl ?_
  refine lv_aload_n hx hb dW_knife_2 rfl (lv_at hl 0 rfl) ?_
  refine lv_iload_n hx hb dW_knife_3 rfl (lv_at hl 1 rfl) ?_
  rcases h with h | h
  · skip
    obtain ⟨P1, g1, h⟩ := h
    refine kc_vi (As := [.int (iI p1)]) (rest := [.int (iI 0), .ref (ad 26)]) (ci := 0) (q0 := 0) S (c_P_knife l dC dI ad kc nn σ p1 g1) (cwV 1 hts (gV mw_732 mw_733 mw_734 mw_1 k_P_knife) rfl rfl rfl (by decide +kernel) ⟨Nat.le_of_ble_eq_true rfl, Nat.le_of_ble_eq_true rfl⟩) hK hN hA hW (fun _ => rfl) rfl rfl rfl hl.1 rfl (Nat.le_of_ble_eq_true rfl) dW_knife_4 ⟨Nat.zero_le _, Nat.zero_le _⟩ (fun r1 s1 H locs hp hW => ?_)
    have h := h r1 s1 hp
    obtain ⟨q1, h⟩ := h
    refine ki_i2l hx hb dW_knife_7 q1 ?_
    obtain ⟨s2, es2⟩ : ∃ z : kM, z = va_up s1 26 (va_up (s1 26) 0 r1) := ⟨_, rfl⟩
    refine k_last (ws' := wC ad kc nn s2) hx hb hK hW 26 18 (s1 26) rfl rfl ⟨by decide, by decide, by decide⟩ (by rw [es2]; exact wC_a26 ..) dW_knife_8 (fun H locs hW => ?_)
    have h := h s2 es2
    refine lv_goto (tgt := 15) hx hb dW_knife_9 (by decide) ?_
    refine lv_iconst (v := iI 0) hx hb dW_knife_15 rfl ?_
    refine W.widen (k := 1) (n := 6) (Nat.le_of_ble_eq_true rfl) (Nat.le_of_ble_eq_true rfl) ?_
    exact k_iret hx hb hr hlocks hW dW_knife_16 h
  · skip
    obtain ⟨Px1, g2, h⟩ := h
    refine k_catch (As := [.int (iI p1)]) (rest := [.int (iI 0), .ref (ad 26)]) S (t_P_knife l htr dC dI ad kc nn σ p1 g2) (cwV 1 hts (gV mw_732 mw_733 mw_734 mw_1 k_P_knife) rfl rfl rfl (by decide +kernel) ⟨Nat.le_of_ble_eq_true rfl, Nat.le_of_ble_eq_true rfl⟩) ⟨kPt.blind, va_recv hK hW.1 (ci := 0) (q0 := 0) rfl rfl, fun U hU hWm => ⟨rfl, by rw [hU]; exact hW.1, va_K.moved hWm.alike hK, hN.warm hWm, by rw [hU]; exact hst.warm hWm⟩⟩ hW rfl hl.1 rfl (Nat.le_of_ble_eq_true rfl) dW_knife_4 ⟨Nat.le_of_ble_eq_true rfl, Nat.le_of_ble_eq_true rfl⟩ (fun _ => 12) (fun k hpx T' X' x ce q1 q2 q3 => ?_) (fun k x H hpx hW => ?_)
    · obtain ⟨rfl, -⟩ := h k hpx
      exact kFind1h X' hown rfl q1 q2 q3 hh ⟨Nat.le_of_ble_eq_true rfl, Nat.le_of_ble_eq_true rfl⟩ (by decide) (hts _ (gG_in mw_450)) (hst.1 _ _ cs_1)
    · obtain ⟨rfl, h⟩ := h k hpx
      refine lv_astore_n (lv' := [(3, .ref x), (0, .ref (ad 0)), (1, .int (iI p1)), (2, .ref (ad 26))]) hx hb dW_knife_12 rfl hl (by decide) rfl (fun ls hl => ?_)
      refine lv_iconst (v := iI 1) hx hb dW_knife_13 rfl ?_
      refine W.widen (k := 1) (n := 6) (Nat.le_of_ble_eq_true rfl) (Nat.le_of_ble_eq_true rfl) ?_
      exact k_iret hx hb hr hlocks hW dW_knife_14 h
