theorem zq_ref {args : Array Value} {U : State} {C n d : String} {A : Nat → Prop} (h : va_Zq C n d A U U.heap) : (Cond.isRef (.static C n d)).before args U = true := by
  have key : ∀ v : Value, va_Z C n d v A U U.heap → (Term.static C n d).eval args U none [] U = some v := by
    rintro v ⟨cf, kf, fi, f, a, cell, h1, h2, h3, h4, h5, h6, h7, -⟩
    simp [Term.eval, State.fieldNamed?, h1, h2, h4, h5, h6, h7]
  rcases h with h | ⟨t, h⟩
  · simp [Cond.before, Cond.holds, Cond.value, key _ h]
  · simp [Cond.before, Cond.holds, Cond.value, key _ h]
def stF : List Cond := [Jvm.Cond.castable "java/lang/IndexOutOfBoundsException" "java/lang/IndexOutOfBoundsException", Jvm.Cond.declares ({ cls := "java/lang/RuntimeException", name := "<init>", desc := "()V" } : Jvm.MethodName), Jvm.Cond.declares ({ cls := "java/lang/RuntimeException", name := "<init>", desc := "(Ljava/lang/String;)V" } : Jvm.MethodName), Jvm.Cond.declares ({ cls := "java/lang/Exception", name := "<init>", desc := "()V" } : Jvm.MethodName), Jvm.Cond.declares ({ cls := "java/lang/Exception", name := "<init>", desc := "(Ljava/lang/String;)V" } : Jvm.MethodName), Jvm.Cond.declares ({ cls := "java/lang/Throwable", name := "<init>", desc := "()V" } : Jvm.MethodName), Jvm.Cond.declares ({ cls := "java/lang/Throwable", name := "<init>", desc := "(Ljava/lang/String;)V" } : Jvm.MethodName), Jvm.Cond.castable "java/lang/IllegalArgumentException" "java/lang/IllegalArgumentException", Jvm.Cond.castable "java/lang/IllegalStateException" "java/lang/IllegalStateException"]
set_option maxRecDepth 20000 in
theorem stF_tbl : ∀ w ∈ stF, w ∈ lw_tbl := by decide +kernel
theorem stF_on : ∀ w ∈ stF, w.onTables = true := by decide +kernel
theorem stF_face : ∀ w ∈ stF, w.keepsFace = true := by decide +kernel
def kFc (U : State) : Prop := ∀ B : Array Value, ∀ w ∈ stF, w.before B U = true
theorem kFc.same {u U : State} (h : u.vm = U.vm) (hZ : kFc u) : kFc U := fun B w hw => va_tabs (stF_on w hw) h (hZ B w hw)
theorem kFc.warm {s U : State} (hW : s.WarmedH U.vm) (hZ : kFc s) : kFc U := fun B w hw => va_tabs (u := s.setVm U.vm) (stF_on w hw) rfl (Cond.before_shiftedFace (State.Shifted.of_warmed hW) w (stF_face w hw) (hZ B w hw))
theorem kFc.of {s : State} {B : Array Value} (h : ∀ w ∈ lw_tbl, w.before B s = true) : kFc s := fun B' w hw => va_tabs (stF_on w hw) rfl (h w (stF_tbl w hw))
abbrev zU (U : State) (H : Heap) : Prop := va_Zq "java/lang/Throwable" "UNASSIGNED_STACK" "[Ljava/lang/StackTraceElement;" (fun _ => False) U H
abbrev zS (U : State) (H : Heap) : Prop := va_Zq "java/lang/Throwable" "SUPPRESSED_SENTINEL" "Ljava/util/List;" (fun _ => False) U H
def exC : Nat → String := fun k => match k with
  | 0 => "java/lang/IndexOutOfBoundsException"
  | 1 => "java/lang/IllegalArgumentException"
  | _ => "java/lang/IllegalStateException"
def exN : List String := ["java/lang/RuntimeException", "java/lang/Exception"]
def ncG : List (String × String) := [(exC 0, exC 1), (exC 0, exC 2), (exC 1, exC 0), (exC 1, exC 2), (exC 2, exC 0), (exC 2, exC 1)]
def kLs (C n d : String) (A : Nat → Prop) (U : State) (H : Heap) : Prop := ∃ (c : ClassId) (k : Class) (i : Nat) (f : Field) (a : Nat) (cell : Cell), U.vm.findClass C = some c ∧ U.fieldFound? C n d = some (c, k, i, f) ∧ f.isStatic = true ∧ k.statics = some a ∧ H[a]? = some cell ∧ cell.vm.isStatics = true ∧ cell.cls = c ∧ f.slot < cell.slots.size ∧ k.staticTypes[f.slot]? = some f.type ∧ ¬ A a
theorem kLs.of {args : Array Value} {s : State} {C n d : String} {A : Nat → Prop} (hl : (Cond.laysStatic C n d).before args s = true) (hA : ∀ a : Nat, a < s.heap.size → ¬ A a) : kLs C n d A s s.heap := by
  obtain ⟨c, k, i, f, a, cell, hc, hi, hst, ha, hcell, hs, hcls, hlt, hty⟩ := Cond.laysStatic_spec hl
  exact ⟨c, k, i, f, a, cell, hc, hi, hst, ha, hcell, hs, hcls, hlt, hty, hA a (Array.getElem?_eq_some_iff.mp hcell).1⟩
theorem kLs.moved {C n d : String} {A : Nat → Prop} {u U : State} {H : Heap} (hvm : u.vm.Alike U.vm) (h : kLs C n d A u H) : kLs C n d A U H := by
  obtain ⟨c, k, i, f, a, cell, hc, hi, hst, ha, hcell, hs, hcls, hlt, hty, hA⟩ := h
  obtain ⟨k', hi', he⟩ := State.fieldFound?_setVm hvm hi
  exact ⟨c, k', i, f, a, cell, by rw [hvm.findClass]; exact hc, hi', hst, by rw [he]; exact ha, hcell, hs, hcls, hlt, by rw [he]; exact hty, hA⟩
theorem kLs.kept {C n d : String} {A : Nat → Prop} {U : State} {H H1 : Heap} (h : kLs C n d A U H) (hq : ∀ a : Nat, a < H.size → ¬ A a → H1[a]? = H[a]?) : kLs C n d A U H1 := by
  obtain ⟨c, k, i, f, a, cell, hc, hi, hst, ha, hcell, hs, hcls, hlt, hty, hA⟩ := h
  exact ⟨c, k, i, f, a, cell, hc, hi, hst, ha, by rw [hq a (Array.getElem?_eq_some_iff.mp hcell).1 hA]; exact hcell, hs, hcls, hlt, hty, hA⟩
theorem kLs.narrow {C n d : String} {A B : Nat → Prop} {U : State} {H : Heap} (h : kLs C n d A U H) (hAB : ∀ q, B q → A q) : kLs C n d B U H := by
  obtain ⟨c, k, i, f, a, cell, hc, hi, hst, ha, hcell, hs, hcls, hlt, hty, hA⟩ := h
  exact ⟨c, k, i, f, a, cell, hc, hi, hst, ha, hcell, hs, hcls, hlt, hty, fun z => hA (hAB a z)⟩
theorem kLs.use {C n d : String} {A : Nat → Prop} {U : State} {args : Array Value} (h : kLs C n d A U U.heap) : (Cond.laysStatic C n d).before args U = true := by
  obtain ⟨c, k, i, f, a, cell, hc, hi, hst, ha, hcell, hs, hcls, hlt, hty, hA⟩ := h
  simp [Cond.before, Cond.holds, Cond.value, hc, hi, hst, ha, hcell, hs, hcls, hlt, hty]
abbrev lU (U : State) (H : Heap) : Prop := kLs "java/lang/Throwable" "UNASSIGNED_STACK" "[Ljava/lang/StackTraceElement;" (fun _ => False) U H
abbrev lS (U : State) (H : Heap) : Prop := kLs "java/lang/Throwable" "SUPPRESSED_SENTINEL" "Ljava/util/List;" (fun _ => False) U H
def srG : List (Nat × String) := [(72, "no such slice or cell"), (93, "an axis has four numbers"), (106, "no such corner"), (114, "thick is 1 .. 1000, core 0 .. 1000"), (130, "nothing is peeled"), (133, "no such turn"), (142, "angle is 0 .. 359, radius 0 .. 1000, kind 0 .. 3"), (147, "there are 16 faults"), (155, "no such fault"), (162, "width is 1 .. 500, worth 0 .. 1000000"), (165, "there are 6 leaves"), (171, "no such leaf or kind"), (177, "step is 1 .. 1000"), (189, "nothing is clipped"), (191, "no such clipped leaf or what"), (199, "no such what"), (210, "no such leaf"), (212, "below is 1 .. 1000, above 0 .. below"), (220, "radius is 0 .. 1000, below the one before; angle -100 .. 100"), (224, "radius is 0 .. 1000")]
def kSr (U : State) : Prop := ∀ q ∈ srG, ∃ a : Nat, vk_R "PeelRibbons" q.1 q.2 a U
theorem kSr.use {U : State} {args : Array Value} {k : Nat} {tx : String} (h : kSr U) (hq : (k, tx) ∈ srG) : (Cond.stringRef "PeelRibbons" k tx).before args U = true := by
  obtain ⟨a, h1, -⟩ := h (k, tx) hq
  exact h1
/-- what throws and catches need beside the words: castability, two statics of Throwable, the texts, what is not castable -/
def kSt (U : State) (H : Heap) : Prop := kFc U ∧ zU U H ∧ zS U H ∧ (∀ q ∈ ncG, va_Nc q.1 q.2 U) ∧ lU U H ∧ lS U H ∧ kSr U
theorem kSt.same {u U : State} {H : Heap} (h : u.vm = U.vm) (hZ : kSt u H) : kSt U H := ⟨kFc.same h hZ.1, va_Zq.moved (by rw [h]; exact Vm.Alike.refl _) hZ.2.1, va_Zq.moved (by rw [h]; exact Vm.Alike.refl _) hZ.2.2.1, fun q hq => va_Nc.moved (by rw [h]; exact Vm.Alike.refl _) (hZ.2.2.2.1 q hq), kLs.moved (by rw [h]; exact Vm.Alike.refl _) hZ.2.2.2.2.1, kLs.moved (by rw [h]; exact Vm.Alike.refl _) hZ.2.2.2.2.2.1, fun q hq => (hZ.2.2.2.2.2.2 q hq).imp fun _ z => vk_R.same h.symm z⟩
theorem kSt.warm {s U : State} {H : Heap} (hW : s.WarmedH U.vm) (hZ : kSt s H) : kSt U H := ⟨kFc.warm hW hZ.1, va_Zq.moved hW.alike hZ.2.1, va_Zq.moved hW.alike hZ.2.2.1, fun q hq => va_Nc.moved hW.alike (hZ.2.2.2.1 q hq), kLs.moved hW.alike hZ.2.2.2.2.1, kLs.moved hW.alike hZ.2.2.2.2.2.1, fun q hq => (hZ.2.2.2.2.2.2 q hq).imp fun _ z => vk_R.warm hW z⟩
def kPt (D : va_G) (cl : List vw_C) (tys : List (ClassId × FieldType)) (ws : va_W) (ns : List (String × Nat × MethodName × String)) (av : List Value) : Array Value → State → Prop := va_Pc av (fun U => va_P D cl ws U.heap ∧ va_K D cl tys U ∧ kNw ns U ∧ kSt U U.heap)
theorem kPt.blind {D : va_G} {cl : List vw_C} {tys : List (ClassId × FieldType)} {ws : va_W} {ns : List (String × Nat × MethodName × String)} {av : List Value} : FrameBlind (kPt D cl tys ws ns av) := fun a U g mk q => by
  obtain ⟨q0, qP, qK, qN, qS⟩ := q
  exact ⟨q0, qP, va_K.moved (u := U) (U := U.calling g mk a) (Vm.Alike.refl U.vm) qK, kNw.same (u := U) (U := U.calling g mk a) rfl qN, kSt.same (u := U) (U := U.calling g mk a) rfl qS⟩
theorem k_enterT {l : Launch} {y : MethodName} {wsy ws' : List Cond} {rm : Room} {cc : ByteArray} {maxL : Nat} {ret : Option FieldType} {D : va_G} {cl : List vw_C} {tys : List (ClassId × FieldType)} {w0 : va_W} {ns : List (String × Nat × MethodName × String)} {av : List Value} {Qc : Array Value → State → Outcome → State → Prop} (hy : plainName y.cls = true) (hw : wsy = Cond.code y cc maxL ret :: ws') (hlen : (lg_sl av).length ≤ maxL)
    (body : ∀ (p : Program) (e : Env) (s : State) (m : MethodId) (below : List Frame) (meth : Method) (c : Code) (ls : Array Slot), CallFix p m c cc maxL s av.toArray wsy y.cls → meth.locks = false → c.exceptionTable.isEmpty = true → va_P D cl w0 s.heap → va_K D cl tys s → kNw ns s → kSt s s.heap → lv_has ls maxL (lv_args 0 av) →
      W p l e (headSpec wsy rm).room s m av.toArray below meth c s.heap [] 0 0 (MQT below Qc av.toArray s 1 6) (F0 m 0 ls [])) : MetT l y wsy rm (kPt D cl tys w0 ns av) Qc 1 6 := by
  refine MetT.ofW (cc := cc) (maxL := maxL) (ret := ret) hy hw ?_
  intro p e s m args below meth c s₁ B hml hno hv
  obtain ⟨rfl, hP, hK, hn, hst⟩ := hv
  have hl := lv_entry av (n := maxL) hlen
  rw [lg_entry_eq]
  generalize (lg_sl av ++ List.replicate (maxL - (lg_sl av).length) Slot.unset).toArray = ls at hl ⊢
  exact body p e s m below meth c ls ⟨B.exec, B.bytes, hml, findClass_of_methodNamed B.named, atoms_spec (ws := wsy) B.pre⟩ B.notSynchronized hno hP hK hn hst hl
set_option maxRecDepth 20000 in
theorem own_d0 : ∀ a ∈ Bundle.ownAtoms R_P 74 (exC 0) exN, (a ∈ gG ∨ a ∈ stF) ∨ (a = Cond.isRef (.static "java/lang/Throwable" "UNASSIGNED_STACK" "[Ljava/lang/StackTraceElement;") ∨ a = Cond.isRef (.static "java/lang/Throwable" "SUPPRESSED_SENTINEL" "Ljava/util/List;") ∨ a = Cond.laysStatic "java/lang/Throwable" "UNASSIGNED_STACK" "[Ljava/lang/StackTraceElement;" ∨ a = Cond.laysStatic "java/lang/Throwable" "SUPPRESSED_SENTINEL" "Ljava/util/List;") := by decide +kernel
theorem own_0 {cx : Cond} {args : Array Value} {s : State} (hts : ∀ w ∈ cx :: gG, w.before args s = true) (hst : kSt s s.heap) : ∀ a ∈ Bundle.ownAtoms R_P 74 (exC 0) exN, a.before args s = true := by
  intro a ha
  rcases own_d0 a ha with (h | h) | (rfl | rfl | rfl | rfl)
  · exact hts a (gG_in h)
  · exact hst.1 args a h
  · exact zq_ref hst.2.1
  · exact zq_ref hst.2.2.1
  · exact hst.2.2.2.2.1.use
  · exact hst.2.2.2.2.2.1.use
set_option maxRecDepth 20000 in
theorem own_d1 : ∀ a ∈ Bundle.ownAtoms R_P 116 (exC 1) exN, (a ∈ gG ∨ a ∈ stF) ∨ (a = Cond.isRef (.static "java/lang/Throwable" "UNASSIGNED_STACK" "[Ljava/lang/StackTraceElement;") ∨ a = Cond.isRef (.static "java/lang/Throwable" "SUPPRESSED_SENTINEL" "Ljava/util/List;") ∨ a = Cond.laysStatic "java/lang/Throwable" "UNASSIGNED_STACK" "[Ljava/lang/StackTraceElement;" ∨ a = Cond.laysStatic "java/lang/Throwable" "SUPPRESSED_SENTINEL" "Ljava/util/List;") := by decide +kernel
theorem own_1 {cx : Cond} {args : Array Value} {s : State} (hts : ∀ w ∈ cx :: gG, w.before args s = true) (hst : kSt s s.heap) : ∀ a ∈ Bundle.ownAtoms R_P 116 (exC 1) exN, a.before args s = true := by
  intro a ha
  rcases own_d1 a ha with (h | h) | (rfl | rfl | rfl | rfl)
  · exact hts a (gG_in h)
  · exact hst.1 args a h
  · exact zq_ref hst.2.1
  · exact zq_ref hst.2.2.1
  · exact hst.2.2.2.2.1.use
  · exact hst.2.2.2.2.2.1.use
set_option maxRecDepth 20000 in
theorem own_d2 : ∀ a ∈ Bundle.ownAtoms R_P 132 (exC 2) exN, (a ∈ gG ∨ a ∈ stF) ∨ (a = Cond.isRef (.static "java/lang/Throwable" "UNASSIGNED_STACK" "[Ljava/lang/StackTraceElement;") ∨ a = Cond.isRef (.static "java/lang/Throwable" "SUPPRESSED_SENTINEL" "Ljava/util/List;") ∨ a = Cond.laysStatic "java/lang/Throwable" "UNASSIGNED_STACK" "[Ljava/lang/StackTraceElement;" ∨ a = Cond.laysStatic "java/lang/Throwable" "SUPPRESSED_SENTINEL" "Ljava/util/List;") := by decide +kernel
theorem own_2 {cx : Cond} {args : Array Value} {s : State} (hts : ∀ w ∈ cx :: gG, w.before args s = true) (hst : kSt s s.heap) : ∀ a ∈ Bundle.ownAtoms R_P 132 (exC 2) exN, a.before args s = true := by
  intro a ha
  rcases own_d2 a ha with (h | h) | (rfl | rfl | rfl | rfl)
  · exact hts a (gG_in h)
  · exact hst.1 args a h
  · exact zq_ref hst.2.1
  · exact zq_ref hst.2.2.1
  · exact hst.2.2.2.2.1.use
  · exact hst.2.2.2.2.2.1.use
