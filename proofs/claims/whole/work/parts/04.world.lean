/-! WORLDS: one list of cells, its numbers a function of cell and place; contracts over it. -/
def kW (D : va_G) (cl : List vw_C) (A : Nat → Prop) (H0 : Heap) (ws : va_W) (H : Heap) (locs : List Loc) : Prop := va_P D cl ws H ∧ va_D A ws ∧ va_S A H0 H locs
theorem kW_at {w1 w2 : va_W} (e : w1.map Prod.fst = w2.map Prod.fst) {k : Nat} {q : Nat × va_E} (h : w2[k]? = some q) : ∃ p : Nat × va_E, w1[k]? = some p ∧ p.1 = q.1 := by
  have h1 : (w1.map Prod.fst)[k]? = some q.1 := by rw [e, List.getElem?_map, h]; rfl
  rw [List.getElem?_map] at h1
  cases h2 : w1[k]? with
  | none => rw [h2] at h1; cases h1
  | some p => rw [h2] at h1; exact ⟨p, rfl, Option.some.inj h1⟩
theorem kW_D {A : Nat → Prop} {w1 w2 : va_W} (h : va_D A w1) (e : w1.map Prod.fst = w2.map Prod.fst) : va_D A w2 :=
  ⟨fun i j p q hi hj hpq => by
    obtain ⟨p1, a1, a2⟩ := kW_at e hi
    obtain ⟨q1, b1, b2⟩ := kW_at e hj
    exact h.1 i j p1 q1 a1 b1 (a2.trans (hpq.trans b2.symm)), fun k q hk => by
    obtain ⟨p1, a1, a2⟩ := kW_at e hk
    rw [← a2]
    exact h.2 k p1 a1⟩
/-- the nest mates' links that a method and its callees use -/
def kNw (ns : List (String × Nat × MethodName × String)) (U : State) : Prop := ∀ q ∈ ns, va_Nw (.methodLinkNest q.1 q.2.1 q.2.2.1 q.2.2.2) U
theorem kNw.same {ns : List (String × Nat × MethodName × String)} {u U : State} (h : u.vm = U.vm) (hZ : kNw ns u) : kNw ns U := fun q hq => va_Nw.same rfl h (hZ q hq)
theorem kNw.warm {ns : List (String × Nat × MethodName × String)} {s U : State} (hW : s.WarmedH U.vm) (hZ : kNw ns s) : kNw ns U := fun q hq => va_Nw.warmM hW (hZ q hq)
def kPc (D : va_G) (cl : List vw_C) (tys : List (ClassId × FieldType)) (ws : va_W) (ns : List (String × Nat × MethodName × String)) (sz : Nat) (av : List Value) : Array Value → State → Prop := va_Pc av (fun U => U.heap.size = sz ∧ va_P D cl ws U.heap ∧ va_K D cl tys U ∧ va_D (fun _ => True) ws ∧ kNw ns U)
theorem kPc.blind {D : va_G} {cl : List vw_C} {tys : List (ClassId × FieldType)} {ws : va_W} {ns : List (String × Nat × MethodName × String)} {sz : Nat} {av : List Value} : FrameBlind (kPc D cl tys ws ns sz av) := fun a U g mk q => by
  obtain ⟨q0, q1, qP, qK, qD, qN⟩ := q
  exact ⟨q0, q1, qP, va_K.moved (u := U) (U := U.calling g mk a) (Vm.Alike.refl U.vm) qK, qD, kNw.same (u := U) (U := U.calling g mk a) rfl qN⟩
def kQi (D : va_G) (cl : List vw_C) (w : kM → va_W) (P : Int → kM → Prop) (A : Nat → Prop) : Array Value → State → Outcome → State → Prop := va_Qi (S := Int × kM) (fun r u => r = iI u.1 ∧ P u.1 u.2) (fun u t => va_P D cl (w u.2) t.heap) A
def kQv (D : va_G) (cl : List vw_C) (w : kM → va_W) (P : kM → Prop) (A : Nat → Prop) : Array Value → State → Outcome → State → Prop := va_Qv (S := kM) P (fun u t => va_P D cl (w u) t.heap) A
/-- a method of a world that makes nothing: from the numbers σ it comes back with an int and numbers for which P holds -/
def kMi (l : Launch) (y : MethodName) (wsy : List Cond) (rm : Room) (D : va_G) (cl : List vw_C) (tys : List (ClassId × FieldType)) (w : kM → va_W) (ns : List (String × Nat × MethodName × String)) (σ : kM) (av : List Value) (P : Int → kM → Prop) : Prop := ∀ sz : Nat, Met l y wsy rm (kPc D cl tys (w σ) ns sz av) (kQi D cl w P (va_A (w σ) sz)) 0 0 (va_A (w σ) sz)
def kMv (l : Launch) (y : MethodName) (wsy : List Cond) (rm : Room) (D : va_G) (cl : List vw_C) (tys : List (ClassId × FieldType)) (w : kM → va_W) (ns : List (String × Nat × MethodName × String)) (σ : kM) (av : List Value) (P : kM → Prop) : Prop := ∀ sz : Nat, Met l y wsy rm (kPc D cl tys (w σ) ns sz av) (kQv D cl w P (va_A (w σ) sz)) 0 0 (va_A (w σ) sz)
theorem k_enter {l : Launch} {y : MethodName} {wsy ws' : List Cond} {rm : Room} {cc : ByteArray} {maxL : Nat} {ret : Option FieldType} {D : va_G} {cl : List vw_C} {tys : List (ClassId × FieldType)} {w0 : va_W} {ns : List (String × Nat × MethodName × String)} {sz : Nat} {av : List Value} {Qc : Array Value → State → Outcome → State → Prop} (hy : plainName y.cls = true) (hw : wsy = Cond.code y cc maxL ret :: ws') (hlen : (lg_sl av).length ≤ maxL)
    (body : ∀ (p : Program) (e : Env) (s : State) (m : MethodId) (below : List Frame) (meth : Method) (c : Code) (ls : Array Slot), CallFix p m c cc maxL s av.toArray wsy y.cls → meth.sig.returnType = ret → meth.locks = false → s.heap.size = sz → (∀ q, s.heap.size ≤ q → va_A w0 sz q) → kW D cl (va_A w0 sz) s.heap w0 s.heap [] → va_K D cl tys s → kNw ns s → lv_has ls maxL (lv_args 0 av) →
      W p l e (headSpec wsy rm).room s m av.toArray below meth c s.heap [] 0 0 (MQ below Qc av.toArray s 0 0 (va_A w0 sz)) (F0 m 0 ls [])) : Met l y wsy rm (kPc D cl tys w0 ns sz av) Qc 0 0 (va_A w0 sz) := by
  refine Met.ofW (cc := cc) (maxL := maxL) (ret := ret) hy hw ?_
  intro p e s m args below meth c s₁ B hml hv
  obtain ⟨rfl, hsz, hP, hK, hD0, hn⟩ := hv
  have hl := lv_entry av (n := maxL) hlen
  rw [lg_entry_eq]
  generalize (lg_sl av ++ List.replicate (maxL - (lg_sl av).length) Slot.unset).toArray = ls at hl ⊢
  exact body p e s m below meth c ls ⟨B.exec, B.bytes, hml, findClass_of_methodNamed B.named, atoms_spec (ws := wsy) B.pre⟩ B.returns B.notSynchronized hsz (fun q h => Or.inr (by rw [← hsz]; exact h)) ⟨hP, hD0.self, va_S.rf⟩ hK hn hl
/-- a method that changes nothing -/
def kPp (D : va_G) (cl : List vw_C) (tys : List (ClassId × FieldType)) (ws : va_W) (ns : List (String × Nat × MethodName × String)) (av : List Value) : Array Value → State → Prop := va_Pc av (fun U => va_P D cl ws U.heap ∧ va_K D cl tys U ∧ kNw ns U)
theorem kPp.blind {D : va_G} {cl : List vw_C} {tys : List (ClassId × FieldType)} {ws : va_W} {ns : List (String × Nat × MethodName × String)} {av : List Value} : FrameBlind (kPp D cl tys ws ns av) := fun a U g mk q => by
  obtain ⟨q0, qP, qK, qN⟩ := q
  exact ⟨q0, qP, va_K.moved (u := U) (U := U.calling g mk a) (Vm.Alike.refl U.vm) qK, kNw.same (u := U) (U := U.calling g mk a) rfl qN⟩
def kQp (P : Int → Prop) : Array Value → State → Outcome → State → Prop := fun _ st oc t => ∃ r : Int, oc = .returned (some (.int (iI r))) ∧ P r ∧ t.heap = st.heap
def kMp (l : Launch) (y : MethodName) (wsy : List Cond) (rm : Room) (D : va_G) (cl : List vw_C) (tys : List (ClassId × FieldType)) (w : kM → va_W) (ns : List (String × Nat × MethodName × String)) (σ : kM) (av : List Value) (P : Int → Prop) : Prop := Met l y wsy rm (kPp D cl tys (w σ) ns av) (kQp P) 0 0 (fun _ => False)
theorem k_enterP {l : Launch} {y : MethodName} {wsy ws' : List Cond} {rm : Room} {cc : ByteArray} {maxL : Nat} {ret : Option FieldType} {D : va_G} {cl : List vw_C} {tys : List (ClassId × FieldType)} {w0 : va_W} {ns : List (String × Nat × MethodName × String)} {av : List Value} {Qc : Array Value → State → Outcome → State → Prop} {free : Addr → Prop} (hy : plainName y.cls = true) (hw : wsy = Cond.code y cc maxL ret :: ws') (hlen : (lg_sl av).length ≤ maxL)
    (body : ∀ (p : Program) (e : Env) (s : State) (m : MethodId) (below : List Frame) (meth : Method) (c : Code) (ls : Array Slot), CallFix p m c cc maxL s av.toArray wsy y.cls → meth.sig.returnType = ret → meth.locks = false → va_P D cl w0 s.heap → va_K D cl tys s → kNw ns s → lv_has ls maxL (lv_args 0 av) →
      W p l e (headSpec wsy rm).room s m av.toArray below meth c s.heap [] 0 0 (MQ below Qc av.toArray s 0 0 free) (F0 m 0 ls [])) : Met l y wsy rm (kPp D cl tys w0 ns av) Qc 0 0 free := by
  refine Met.ofW (cc := cc) (maxL := maxL) (ret := ret) hy hw ?_
  intro p e s m args below meth c s₁ B hml hv
  obtain ⟨rfl, hP, hK, hn⟩ := hv
  have hl := lv_entry av (n := maxL) hlen
  rw [lg_entry_eq]
  generalize (lg_sl av ++ List.replicate (maxL - (lg_sl av).length) Slot.unset).toArray = ls at hl ⊢
  exact body p e s m below meth c ls ⟨B.exec, B.bytes, hml, findClass_of_methodNamed B.named, atoms_spec (ws := wsy) B.pre⟩ B.returns B.notSynchronized hP hK hn hl
section KX
variable {p : Program} {l : Launch} {e : Env} {R : Room} {s : State} {m : MethodId} {args : Array Value} {below : List Frame} {meth : Method} {c : Code} {H : Heap} {locs : List Loc} {cells slots : Nat} {Q : State → Prop}
variable {cc : ByteArray} {pc : Nat} {ls : Array Slot} {rest : List Value} {D : va_G} {cl : List vw_C} {A : Nat → Prop} {a : Nat} {tys : List (ClassId × FieldType)} {ws : va_W} {H0 : Heap}
theorem k_iret (hx : p.tables.exec = Jvm.exec) (hb : c.code = cc) (hr : meth.sig.returnType = some .int) (hlocks : meth.locks = false) {w : kM → va_W} {P : Int → kM → Prop} {σ : kM} {z : Int} (hW : kW D cl A s.heap (w σ) H locs) (hdg : decode cc pc = .ok (.ireturn, 1)) (hp : P z σ) : W p l e R s m args below meth c H locs cells slots (MQ below (kQi D cl w P A) args s cells slots A) (F0 m pc ls [.int (iI z)]) :=
  W.iret (v := iI z) hx hb hr (fun t ht _ => ⟨⟨iI z, (z, σ), rfl, ⟨rfl, hp⟩, by dsimp only; rw [ht]; exact hW.1⟩, hW.2.2.F ht⟩) hW.2.2.2.2 hdg hlocks
theorem k_zret (hx : p.tables.exec = Jvm.exec) (hb : c.code = cc) (hr : meth.sig.returnType = some .boolean) (hlocks : meth.locks = false) {w : kM → va_W} {P : Int → kM → Prop} {σ : kM} {z : Int} (hW : kW D cl A s.heap (w σ) H locs) (hdg : decode cc pc = .ok (.ireturn, 1)) (hz : z = 0 ∨ z = 1) (hp : P z σ) : W p l e R s m args below meth c H locs cells slots (MQ below (kQi D cl w P A) args s cells slots A) (F0 m pc ls [.int (iI z)]) :=
  W.zret (v := iI z) hx hb hr (narZ hz) (fun t ht _ => ⟨⟨iI z, (z, σ), rfl, ⟨rfl, hp⟩, by dsimp only; rw [ht]; exact hW.1⟩, hW.2.2.F ht⟩) hW.2.2.2.2 hdg hlocks
theorem k_vret (hx : p.tables.exec = Jvm.exec) (hb : c.code = cc) (hr : meth.sig.returnType = none) (hlocks : meth.locks = false) {w : kM → va_W} {P : kM → Prop} {σ : kM} (hW : kW D cl A s.heap (w σ) H locs) (hdg : decode cc pc = .ok (.return_, 1)) (hp : P σ) : W p l e R s m args below meth c H locs cells slots (MQ below (kQv D cl w P A) args s cells slots A) (F0 m pc ls []) :=
  W.vret hx hb hr (fun t ht _ => ⟨⟨σ, rfl, hp, by dsimp only; rw [ht]; exact hW.1⟩, hW.2.2.F ht⟩) hW.2.2.2.2 hdg hlocks
theorem k_iretP (hx : p.tables.exec = Jvm.exec) (hb : c.code = cc) (hr : meth.sig.returnType = some .int) (hlocks : meth.locks = false) {P : Int → Prop} {z : Int} (hdg : decode cc pc = .ok (.ireturn, 1)) (hp : P z) : W p l e R s m args below meth c s.heap [] cells slots (MQ below (kQp P) args s cells slots (fun _ => False)) (F0 m pc ls [.int (iI z)]) :=
  W.iret (v := iI z) hx hb hr (fun t ht _ => ⟨z, rfl, hp, ht⟩) (fun _ h => by cases h) hdg hlocks
theorem k_zretP (hx : p.tables.exec = Jvm.exec) (hb : c.code = cc) (hr : meth.sig.returnType = some .boolean) (hlocks : meth.locks = false) {P : Int → Prop} {z : Int} (hdg : decode cc pc = .ok (.ireturn, 1)) (hz : z = 0 ∨ z = 1) (hp : P z) : W p l e R s m args below meth c s.heap [] cells slots (MQ below (kQp P) args s cells slots (fun _ => False)) (F0 m pc ls [.int (iI z)]) :=
  W.zret (v := iI z) hx hb hr (narZ hz) (fun t ht _ => ⟨z, rfl, hp, ht⟩) (fun _ h => by cases h) hdg hlocks
theorem k_get (hx : p.tables.exec = Jvm.exec) (hb : c.code = cc) {own C : String} {T : u_T} {N ci index : Nat} {Ts : List Cond} (hts : ∀ w ∈ Ts, w.before args s = true) (hin : ∀ w ∈ u_ws C T N, w ∈ Ts) (hown : s.vm.findClass own = some m.cls) (hK : va_K D cl tys s) (hP : va_P D cl ws H) (q0 : Nat) {fs : List Value} (he : ws[q0]? = some (a, .inr (ci, fs))) (hc : cl[ci]? = some (C, T, N)) (k : Nat) (hk : k < N) (hlink : (Cond.fieldLink own index (T k).1 (T k).2.1 (T k).2.2.1).before args s = true) {v : Value} (hv : fs[k]? = some v) (hdg : decode cc pc = .ok (.getfield index, 3))
    (kk : W p l e R s m args below meth c H locs cells slots Q (F0 m (pc + 3) ls (v :: rest))) : W p l e R s m args below meth c H locs cells slots Q (F0 m pc ls (.ref a :: rest)) :=
  va_get hx hb hts hin hown hK hP q0 he hc k hk hlink (fun _ h => h) hv hdg kk
theorem k_put (hx : p.tables.exec = Jvm.exec) (hb : c.code = cc) {own C : String} {T : u_T} {N ci index : Nat} {Ts : List Cond} (hts : ∀ w ∈ Ts, w.before args s = true) (hin : ∀ w ∈ u_ws C T N, w ∈ Ts) (ty0 : Nat → FieldType) (hty : ∀ k, k < N → parseFieldDescriptor (T k).2.2.1 = some (ty0 k)) (hnm : ∀ a, a < N → ∀ b, b < N → a ≠ b → (T a).2.1 ≠ (T b).2.1) (hown : s.vm.findClass own = some m.cls) (hK : va_K D cl tys s) (hW : kW D cl A H0 ws H locs) (q0 : Nat) {fs : List Value} {ws' : va_W} (he : ws[q0]? = some (a, .inr (ci, fs))) (hc : cl[ci]? = some (C, T, N)) (k : Nat) (hk : k < N) (hlink : (Cond.fieldLink own index (T k).1 (T k).2.1 (T k).2.2.1).before args s = true) (hfin : (T k).2.2.2 = false) {ty : FieldType} {v : Value} (hd : parseFieldDescriptor (T k).2.2.1 = some ty) (hn : narrow ty v = v) (hfit : fits ty v = true) (hl : k < fs.length) (hw : ws.set q0 (a, .inr (ci, fs.set k v)) = ws')
    (hdg : decode cc pc = .ok (.putfield index, 3)) (kk : ∀ (H1 : Heap) (locs1 : List Loc), kW D cl A H0 ws' H1 locs1 → W p l e R s m args below meth c H1 locs1 cells slots Q (F0 m (pc + 3) ls rest)) : W p l e R s m args below meth c H locs cells slots Q (F0 m pc ls (v :: .ref a :: rest)) :=
  va_put hx hb hts hin ty0 hty hnm hown hK hW.1 hW.2.1 hW.2.2 q0 he hc k hk hlink (fun _ h => h) hfin hd hn hfit hl hdg (fun H1 locs1 h1 h2 h3 => kk H1 locs1 (by rw [← hw]; exact ⟨h1, h2, h3⟩))
theorem k_iald (hx : p.tables.exec = Jvm.exec) (hb : c.code = cc) (hK : va_K D cl tys s) (hP : va_P D cl ws H) (q0 t0 : Nat) {cA : ClassId} {n : Nat} (f : Nat → Int) (ha : ws[q0]? = some (a, .inl (cA, n, .inl (fun j => iI (f j))))) (ht : tys[t0]? = some (cA, .int)) {i : Int} (q : 0 ≤ i ∧ i < (n : Int) ∧ i < 2147483648) (hdg : decode cc pc = .ok (.iaload, 1))
    (kk : W p l e R s m args below meth c H locs cells slots Q (F0 m (pc + 1) ls (.int (iI (f i.toNat)) :: rest))) : W p l e R s m args below meth c H locs cells slots Q (F0 m pc ls (.int (iI i) :: .ref a :: rest)) := by
  have hr : iR i := ⟨by have := q.1; omega, q.2.2⟩
  exact va_iald hx hb hK hP q0 t0 ha ht (iI_in hr q.1 q.2.1) hdg (by rw [iI_clamp hr]; exact kk)
theorem k_zald (hx : p.tables.exec = Jvm.exec) (hb : c.code = cc) (hK : va_K D cl tys s) (hP : va_P D cl ws H) (q0 t0 : Nat) {cA : ClassId} {n : Nat} (f : Nat → Int) (ha : ws[q0]? = some (a, .inl (cA, n, .inl (fun j => iI (f j))))) (ht : tys[t0]? = some (cA, .boolean)) {i : Int} (q : 0 ≤ i ∧ i < (n : Int) ∧ i < 2147483648) (hdg : decode cc pc = .ok (.baload, 1))
    (kk : W p l e R s m args below meth c H locs cells slots Q (F0 m (pc + 1) ls (.int (iI (f i.toNat)) :: rest))) : W p l e R s m args below meth c H locs cells slots Q (F0 m pc ls (.int (iI i) :: .ref a :: rest)) := by
  have hr : iR i := ⟨by have := q.1; omega, q.2.2⟩
  exact va_zald hx hb hK hP q0 t0 ha ht (iI_in hr q.1 q.2.1) hdg (by rw [iI_clamp hr]; exact kk)
theorem k_lald (hx : p.tables.exec = Jvm.exec) (hb : c.code = cc) (hK : va_K D cl tys s) (hP : va_P D cl ws H) (q0 t0 : Nat) {cA : ClassId} {n : Nat} (f : Nat → Int) (ha : ws[q0]? = some (a, .inl (cA, n, .inr (.inl (fun j => lI (f j)))))) (ht : tys[t0]? = some (cA, .long)) {i : Int} (q : 0 ≤ i ∧ i < (n : Int) ∧ i < 2147483648) (hdg : decode cc pc = .ok (.laload, 1))
    (kk : W p l e R s m args below meth c H locs cells slots Q (F0 m (pc + 1) ls (.long (lI (f i.toNat)) :: rest))) : W p l e R s m args below meth c H locs cells slots Q (F0 m pc ls (.int (iI i) :: .ref a :: rest)) := by
  have hr : iR i := ⟨by have := q.1; omega, q.2.2⟩
  exact va_lald hx hb hK hP q0 t0 ha ht (iI_in hr q.1 q.2.1) hdg (by rw [iI_clamp hr]; exact kk)
theorem k_iast (hx : p.tables.exec = Jvm.exec) (hb : c.code = cc) (hK : va_K D cl tys s) (hW : kW D cl A H0 ws H locs) (q0 t0 : Nat) {cA : ClassId} {n : Nat} (f : Nat → Int) {ws' : va_W} (ha : ws[q0]? = some (a, .inl (cA, n, .inl (fun j => iI (f j))))) (ht : tys[t0]? = some (cA, .int)) {i z : Int} (q : 0 ≤ i ∧ i < (n : Int) ∧ i < 2147483648) (hw : ws.set q0 (a, .inl (cA, n, .inl (fun j => iI (va_up f i.toNat z j)))) = ws') (hdg : decode cc pc = .ok (.iastore, 1))
    (kk : ∀ (H1 : Heap) (locs1 : List Loc), kW D cl A H0 ws' H1 locs1 → W p l e R s m args below meth c H1 locs1 cells slots Q (F0 m (pc + 1) ls rest)) : W p l e R s m args below meth c H locs cells slots Q (F0 m pc ls (.int (iI z) :: .int (iI i) :: .ref a :: rest)) := by
  have hr : iR i := ⟨by have := q.1; omega, q.2.2⟩
  refine va_iast hx hb hK hW.1 hW.2.1 hW.2.2 q0 t0 ha ht (iI_in hr q.1 q.2.1) hdg (fun H1 locs1 h1 h2 h3 => kk H1 locs1 ?_)
  rw [iI_clamp hr, upd_iI] at h1 h2
  rw [← hw]
  exact ⟨h1, h2, h3⟩
theorem k_zast (hx : p.tables.exec = Jvm.exec) (hb : c.code = cc) (hK : va_K D cl tys s) (hW : kW D cl A H0 ws H locs) (q0 t0 : Nat) {cA : ClassId} {n : Nat} (f : Nat → Int) {ws' : va_W} (ha : ws[q0]? = some (a, .inl (cA, n, .inl (fun j => iI (f j))))) (ht : tys[t0]? = some (cA, .boolean)) {i z : Int} (q : 0 ≤ i ∧ i < (n : Int) ∧ i < 2147483648) (hz : z = 0 ∨ z = 1) (hw : ws.set q0 (a, .inl (cA, n, .inl (fun j => iI (va_up f i.toNat z j)))) = ws') (hdg : decode cc pc = .ok (.bastore, 1))
    (kk : ∀ (H1 : Heap) (locs1 : List Loc), kW D cl A H0 ws' H1 locs1 → W p l e R s m args below meth c H1 locs1 cells slots Q (F0 m (pc + 1) ls rest)) : W p l e R s m args below meth c H locs cells slots Q (F0 m pc ls (.int (iI z) :: .int (iI i) :: .ref a :: rest)) := by
  have hr : iR i := ⟨by have := q.1; omega, q.2.2⟩
  refine va_zast hx hb hK hW.1 hW.2.1 hW.2.2 q0 t0 ha ht (iI_in hr q.1 q.2.1) hdg (fun H1 locs1 h1 h2 h3 => kk H1 locs1 ?_)
  rw [iI_clamp hr, vnarZ hz, upd_iI] at h1 h2
  rw [← hw]
  exact ⟨h1, h2, h3⟩
theorem k_last (hx : p.tables.exec = Jvm.exec) (hb : c.code = cc) (hK : va_K D cl tys s) (hW : kW D cl A H0 ws H locs) (q0 t0 : Nat) {cA : ClassId} {n : Nat} (f : Nat → Int) {ws' : va_W} (ha : ws[q0]? = some (a, .inl (cA, n, .inr (.inl (fun j => lI (f j)))))) (ht : tys[t0]? = some (cA, .long)) {i z : Int} (q : 0 ≤ i ∧ i < (n : Int) ∧ i < 2147483648) (hw : ws.set q0 (a, .inl (cA, n, .inr (.inl (fun j => lI (va_up f i.toNat z j))))) = ws') (hdg : decode cc pc = .ok (.lastore, 1))
    (kk : ∀ (H1 : Heap) (locs1 : List Loc), kW D cl A H0 ws' H1 locs1 → W p l e R s m args below meth c H1 locs1 cells slots Q (F0 m (pc + 1) ls rest)) : W p l e R s m args below meth c H locs cells slots Q (F0 m pc ls (.long (lI z) :: .int (iI i) :: .ref a :: rest)) := by
  have hr : iR i := ⟨by have := q.1; omega, q.2.2⟩
  refine va_last hx hb hK hW.1 hW.2.1 hW.2.2 q0 t0 ha ht (iI_in hr q.1 q.2.1) hdg (fun H1 locs1 h1 h2 h3 => kk H1 locs1 ?_)
  rw [iI_clamp hr, updL_lI] at h1 h2
  rw [← hw]
  exact ⟨h1, h2, h3⟩
/-- longs compared, and the branch behind: the four forms -/
theorem kl_cmp (hx : p.tables.exec = Jvm.exec) (hb : c.code = cc) {x y : Int} (rx : lR x) (ry : lR y) (hd : decode cc pc = .ok (.lcmp, 1)) (k : W p l e R s m args below meth c H locs cells slots Q (F0 m (pc + 1) ls (.int (iI (if y < x then 1 else if x = y then 0 else -1)) :: rest))) : W p l e R s m args below meth c H locs cells slots Q (F0 m pc ls (.long (lI y) :: .long (lI x) :: rest)) := by
  refine W.lcmp hx hb hd ?_
  have h : lg_cmp (lI x) (lI y) = iI (if y < x then 1 else if x = y then 0 else -1) := by
    unfold lg_cmp
    by_cases h1 : y < x
    · rw [if_pos (show lI x > lI y from (lI_lt ry rx).mpr h1), if_pos h1]; decide
    · rw [if_neg (fun q => h1 ((lI_lt ry rx).mp q)), if_neg h1]
      by_cases h2 : x = y
      · rw [if_pos ((lI_eq rx ry).mpr h2), if_pos h2]; decide
      · rw [if_neg (fun q => h2 ((lI_eq rx ry).mp q)), if_neg h2]; decide
  rw [h]
  exact k
theorem kmx (hx : p.tables.exec = Jvm.exec) (hb : c.code = cc) (hml : c.maxLocals = ls.size) {own : String} {index : Nat} (hown : s.vm.findClass own = some m.cls) (hlink : (Cond.methodLink own index Lib.Math.max.name).before args s = true) (hstat : (Cond.static Lib.Math.max.name).before args s = true) (hini : (Cond.initialized "java/lang/Math").before args s = true) (hcode : (Cond.code Lib.Math.max.name Lib.Math.max.code 2 (some .int)).before args s = true)
    (hR : 1 ≤ R.frames ∧ (rest.map fun v => v.category).sum + 13 ≤ R.locals) (hc : cells ≤ R.cells ∧ slots ≤ R.slots) {x y : Int} (rx : iR x) (ry : iR y) (hdg : decode cc pc = .ok (.invokestatic index, 3))
    (kk : W p l e R s m args below meth c H locs cells slots Q (F0 m (pc + 3) ls (.int (iI (if x < y then y else x)) :: rest))) : W p l e R s m args below meth c H locs cells slots Q (F0 m pc ls (.int (iI y) :: .int (iI x) :: rest)) := by
  refine va_mmax hx hb hml hown hlink hstat hini hcode hR.1 hR.2 hc.1 hc.2 hdg ?_
  have h : (if iI x < iI y then iI y else iI x) = iI (if x < y then y else x) := by
    by_cases h1 : x < y
    · rw [if_pos ((iI_lt rx ry).mpr h1), if_pos h1]
    · rw [if_neg (fun q => h1 ((iI_lt rx ry).mp q)), if_neg h1]
  rw [h]
  exact kk
theorem kmn (hx : p.tables.exec = Jvm.exec) (hb : c.code = cc) (hml : c.maxLocals = ls.size) {own : String} {index : Nat} (hown : s.vm.findClass own = some m.cls) (hlink : (Cond.methodLink own index Lib.Math.min.name).before args s = true) (hstat : (Cond.static Lib.Math.min.name).before args s = true) (hini : (Cond.initialized "java/lang/Math").before args s = true) (hcode : (Cond.code Lib.Math.min.name Lib.Math.min.code 2 (some .int)).before args s = true)
    (hR : 1 ≤ R.frames ∧ (rest.map fun v => v.category).sum + 13 ≤ R.locals) (hc : cells ≤ R.cells ∧ slots ≤ R.slots) {x y : Int} (rx : iR x) (ry : iR y) (hdg : decode cc pc = .ok (.invokestatic index, 3))
    (kk : W p l e R s m args below meth c H locs cells slots Q (F0 m (pc + 3) ls (.int (iI (if y < x then y else x)) :: rest))) : W p l e R s m args below meth c H locs cells slots Q (F0 m pc ls (.int (iI y) :: .int (iI x) :: rest)) := by
  refine va_mmin hx hb hml hown hlink hstat hini hcode hR.1 hR.2 hc.1 hc.2 hdg ?_
  have h : (if iI y < iI x then iI y else iI x) = iI (if y < x then y else x) := by
    by_cases h1 : y < x
    · rw [if_pos ((iI_lt ry rx).mpr h1), if_pos h1]
    · rw [if_neg (fun q => h1 ((iI_lt ry rx).mp q)), if_neg h1]
  rw [h]
  exact kk
theorem kF (hA : ∀ q, s.heap.size ≤ q → A q) (hW : kW D cl A s.heap ws H locs) : ∀ q, va_A ws H.size q → A q := by
  rintro q (⟨k, e, h⟩ | h)
  · exact hW.2.1.2 k (q, e) h
  · exact hA q (Nat.le_trans hW.2.2.1 h)
theorem kPre {ns : List (String × Nat × MethodName × String)} {av : List Value} (hK : va_K D cl tys s) (hN : kNw ns s) (hW : kW D cl A s.heap ws H locs) : ∀ U : State, U.heap = H → s.WarmedH U.vm → kPc D cl tys ws ns H.size av av.toArray U := fun U hU hWm => ⟨rfl, by rw [hU], by rw [hU]; exact hW.1, va_K.moved hWm.alike hK, hW.2.1.weaken (fun _ _ _ _ => trivial), hN.warm hWm⟩
theorem kPreP {ns : List (String × Nat × MethodName × String)} {av : List Value} (hK : va_K D cl tys s) (hN : kNw ns s) (hP : va_P D cl ws H) : ∀ U : State, U.heap = H → s.WarmedH U.vm → kPp D cl tys ws ns av av.toArray U := fun U hU hWm => ⟨rfl, by rw [hU]; exact hP, va_K.moved hWm.alike hK, hN.warm hWm⟩
section KC
variable {y : MethodName} {bytes : ByteArray} {maxL nL n index q0 ci : Nat} {ret : Option FieldType} {wsy Ts : List Cond} {rm : Room} {own C : String} {b : Addr} {As st : List Value} {w : kM → va_W} {σ : kM} {ns : List (String × Nat × MethodName × String)} {fs : List Value} {T : u_T} {N : Nat} {host : String}
/-- behind a call that answers an int -/
theorem kc_ki {P : Int → kM → Prop} {a0 : Array Value} (hr : va_Run p l e R s m args below meth c H locs cells slots 0 0 (F0 m pc ls st) rest (kQi D cl w P (va_A (w σ) H.size) a0) (va_A (w σ) H.size)) (hA : ∀ q, s.heap.size ≤ q → A q) (hW : kW D cl A s.heap (w σ) H locs) (hwa : ∀ σ' : kM, (w σ).map Prod.fst = (w σ').map Prod.fst)
    (kk : ∀ (r : Int) (σ' : kM) (H1 : Heap) (locs1 : List Loc), P r σ' → kW D cl A s.heap (w σ') H1 locs1 → W p l e R s m args below meth c H1 locs1 cells slots Q (F0 m (pc + 3) ls (.int (iI r) :: rest))) : W p l e R s m args below meth c H locs cells slots Q (F0 m pc ls st) := by
  refine va_calli hr hW.2.2 (fun q _ h => kF hA hW q h) (kF hA hW) (fun r u t H1 locs1 ht _ hw hB _ _ hS => ?_)
  obtain ⟨rfl, hp⟩ := hw
  rw [ht] at hB
  exact kk u.1 u.2 H1 locs1 hp ⟨hB, kW_D hW.2.1 (hwa u.2), hS⟩
theorem kc_kv {P : kM → Prop} {a0 : Array Value} (hr : va_Run p l e R s m args below meth c H locs cells slots 0 0 (F0 m pc ls st) rest (kQv D cl w P (va_A (w σ) H.size) a0) (va_A (w σ) H.size)) (hA : ∀ q, s.heap.size ≤ q → A q) (hW : kW D cl A s.heap (w σ) H locs) (hwa : ∀ σ' : kM, (w σ).map Prod.fst = (w σ').map Prod.fst)
    (kk : ∀ (σ' : kM) (H1 : Heap) (locs1 : List Loc), P σ' → kW D cl A s.heap (w σ') H1 locs1 → W p l e R s m args below meth c H1 locs1 cells slots Q (F0 m (pc + 3) ls rest)) : W p l e R s m args below meth c H locs cells slots Q (F0 m pc ls st) := by
  refine va_callv hr hW.2.2 (fun q _ h => kF hA hW q h) (kF hA hW) (fun u t H1 locs1 ht _ hw hB _ _ hS => ?_)
  rw [ht] at hB
  exact kk u H1 locs1 hw ⟨hB, kW_D hW.2.1 (hwa u), hS⟩
theorem kc_vi (S : CallFix p m c cc nL s args Ts own) {P : Int → kM → Prop} (hM : kMi l y wsy rm D cl tys w ns σ (.ref b :: As) P) (cw : CallW R s args own C index y bytes maxL ret wsy rm 0 0 n) (hK : va_K D cl tys s) (hN : kNw ns s) (hA : ∀ q, s.heap.size ≤ q → A q) (hW : kW D cl A s.heap (w σ) H locs) (hwa : ∀ σ' : kM, (w σ).map Prod.fst = (w σ').map Prod.fst)
    (hrc : cl[ci]? = some (C, T, N)) (hre : (w σ)[q0]? = some (b, .inr (ci, fs))) (hn : As.length = n) (hsize : ls.size = nL) (hst : st = As.reverse ++ .ref b :: rest) (hcat : (rest.map fun v => v.category).sum ≤ 8) (hdg : decode cc pc = .ok (.invokevirtual index, 3)) (hf : cells ≤ R.cells ∧ slots ≤ R.slots)
    (kk : ∀ (r : Int) (σ' : kM) (H1 : Heap) (locs1 : List Loc), P r σ' → kW D cl A s.heap (w σ') H1 locs1 → W p l e R s m args below meth c H1 locs1 cells slots Q (F0 m (pc + 3) ls (.int (iI r) :: rest))) : W p l e R s m args below meth c H locs cells slots Q (F0 m pc ls st) :=
  kc_ki (va_runV (As := As) (rest := rest) S (hM H.size) cw ⟨kPc.blind, va_recv hK hW.1 hrc hre, kPre hK hN hW⟩ rfl hn hsize hst (lv_room hcat) hdg hf) hA hW hwa kk
theorem kc_vv (S : CallFix p m c cc nL s args Ts own) {P : kM → Prop} (hM : kMv l y wsy rm D cl tys w ns σ (.ref b :: As) P) (cw : CallW R s args own C index y bytes maxL ret wsy rm 0 0 n) (hK : va_K D cl tys s) (hN : kNw ns s) (hA : ∀ q, s.heap.size ≤ q → A q) (hW : kW D cl A s.heap (w σ) H locs) (hwa : ∀ σ' : kM, (w σ).map Prod.fst = (w σ').map Prod.fst)
    (hrc : cl[ci]? = some (C, T, N)) (hre : (w σ)[q0]? = some (b, .inr (ci, fs))) (hn : As.length = n) (hsize : ls.size = nL) (hst : st = As.reverse ++ .ref b :: rest) (hcat : (rest.map fun v => v.category).sum ≤ 8) (hdg : decode cc pc = .ok (.invokevirtual index, 3)) (hf : cells ≤ R.cells ∧ slots ≤ R.slots)
    (kk : ∀ (σ' : kM) (H1 : Heap) (locs1 : List Loc), P σ' → kW D cl A s.heap (w σ') H1 locs1 → W p l e R s m args below meth c H1 locs1 cells slots Q (F0 m (pc + 3) ls rest)) : W p l e R s m args below meth c H locs cells slots Q (F0 m pc ls st) :=
  kc_kv (va_runV (As := As) (rest := rest) S (hM H.size) cw ⟨kPc.blind, va_recv hK hW.1 hrc hre, kPre hK hN hW⟩ rfl hn hsize hst (lv_room hcat) hdg hf) hA hW hwa kk
theorem kc_si (S : CallFix p m c cc nL s args Ts own) {P : Int → kM → Prop} (hM : kMi l y wsy rm D cl tys w ns σ As P) (cw : CallB R s args own index y bytes maxL ret wsy rm 0 0 n ∧ (Cond.static y).before args s = true) (hK : va_K D cl tys s) (hN : kNw ns s) (hA : ∀ q, s.heap.size ≤ q → A q) (hW : kW D cl A s.heap (w σ) H locs) (hwa : ∀ σ' : kM, (w σ).map Prod.fst = (w σ').map Prod.fst)
    (hn : As.length = n) (hsize : ls.size = nL) (hst : st = As.reverse ++ rest) (hcat : (rest.map fun v => v.category).sum ≤ 8) (hdg : decode cc pc = .ok (.invokestatic index, 3)) (hf : cells ≤ R.cells ∧ slots ≤ R.slots)
    (kk : ∀ (r : Int) (σ' : kM) (H1 : Heap) (locs1 : List Loc), P r σ' → kW D cl A s.heap (w σ') H1 locs1 → W p l e R s m args below meth c H1 locs1 cells slots Q (F0 m (pc + 3) ls (.int (iI r) :: rest))) : W p l e R s m args below meth c H locs cells slots Q (F0 m pc ls st) :=
  kc_ki (va_runS (As := As) (rest := rest) S (hM H.size) cw ⟨kPc.blind, kPre hK hN hW⟩ rfl hn hsize hst (lv_room hcat) hdg hf) hA hW hwa kk
theorem kc_ni (S : CallFix p m c cc nL s args Ts own) {P : Int → kM → Prop} (hM : kMi l y wsy rm D cl tys w ns σ As P) (cw : va_CN R s args own index y host bytes maxL ret wsy rm 0 0 n ∧ (Cond.static y).before args s = true ∧ True) (hK : va_K D cl tys s) (hN : kNw ns s) (hA : ∀ q, s.heap.size ≤ q → A q) (hW : kW D cl A s.heap (w σ) H locs) (hwa : ∀ σ' : kM, (w σ).map Prod.fst = (w σ').map Prod.fst)
    (hn : As.length = n) (hsize : ls.size = nL) (hst : st = As.reverse ++ rest) (hcat : (rest.map fun v => v.category).sum ≤ 8) (hdg : decode cc pc = .ok (.invokestatic index, 3)) (hf : cells ≤ R.cells ∧ slots ≤ R.slots)
    (kk : ∀ (r : Int) (σ' : kM) (H1 : Heap) (locs1 : List Loc), P r σ' → kW D cl A s.heap (w σ') H1 locs1 → W p l e R s m args below meth c H1 locs1 cells slots Q (F0 m (pc + 3) ls (.int (iI r) :: rest))) : W p l e R s m args below meth c H locs cells slots Q (F0 m pc ls st) :=
  kc_ki (va_runSN (As := As) (rest := rest) S (hM H.size) cw ⟨kPc.blind, kPre hK hN hW⟩ rfl hn hsize hst (lv_room hcat) hdg hf) hA hW hwa kk
theorem kc_kp {P : Int → Prop} {a0 : Array Value} (hr : va_Run p l e R s m args below meth c H locs cells slots 0 0 (F0 m pc ls st) rest (kQp P a0) (fun _ => False))
    (kk : ∀ r : Int, P r → W p l e R s m args below meth c H locs cells slots Q (F0 m (pc + 3) ls (.int (iI r) :: rest))) : W p l e R s m args below meth c H locs cells slots Q (F0 m pc ls st) := by
  intro T hT X
  obtain ⟨v, st₀, t, T', L, h0, X', hL, e1, e2, ⟨r, hv, hp, hh⟩, sg⟩ := hr T hT X
  cases hv
  obtain ⟨t2, a1, b1⟩ := kk r hp T' (by rw [e1, hh, h0]) (Stand.forget X' (fun q h => (hL q h).elim))
  exact ⟨t2, sg t2 a1, b1⟩
theorem kc_vp (S : CallFix p m c cc nL s args Ts own) {P : Int → Prop} (hM : kMp l y wsy rm D cl tys w ns σ (.ref b :: As) P) (cw : CallW R s args own C index y bytes maxL ret wsy rm 0 0 n) (hK : va_K D cl tys s) (hN : kNw ns s) (hP : va_P D cl (w σ) H)
    (hrc : cl[ci]? = some (C, T, N)) (hre : (w σ)[q0]? = some (b, .inr (ci, fs))) (hn : As.length = n) (hsize : ls.size = nL) (hst : st = As.reverse ++ .ref b :: rest) (hcat : (rest.map fun v => v.category).sum ≤ 8) (hdg : decode cc pc = .ok (.invokevirtual index, 3)) (hf : cells ≤ R.cells ∧ slots ≤ R.slots)
    (kk : ∀ r : Int, P r → W p l e R s m args below meth c H locs cells slots Q (F0 m (pc + 3) ls (.int (iI r) :: rest))) : W p l e R s m args below meth c H locs cells slots Q (F0 m pc ls st) :=
  kc_kp (va_runV (As := As) (rest := rest) S hM cw ⟨kPp.blind, va_recv hK hP hrc hre, kPreP hK hN hP⟩ rfl hn hsize hst (lv_room hcat) hdg hf) kk
theorem kc_sp (S : CallFix p m c cc nL s args Ts own) {P : Int → Prop} (hM : kMp l y wsy rm D cl tys w ns σ As P) (cw : CallB R s args own index y bytes maxL ret wsy rm 0 0 n ∧ (Cond.static y).before args s = true) (hK : va_K D cl tys s) (hN : kNw ns s) (hP : va_P D cl (w σ) H)
    (hn : As.length = n) (hsize : ls.size = nL) (hst : st = As.reverse ++ rest) (hcat : (rest.map fun v => v.category).sum ≤ 8) (hdg : decode cc pc = .ok (.invokestatic index, 3)) (hf : cells ≤ R.cells ∧ slots ≤ R.slots)
    (kk : ∀ r : Int, P r → W p l e R s m args below meth c H locs cells slots Q (F0 m (pc + 3) ls (.int (iI r) :: rest))) : W p l e R s m args below meth c H locs cells slots Q (F0 m pc ls st) :=
  kc_kp (va_runS (As := As) (rest := rest) S hM cw ⟨kPp.blind, kPreP hK hN hP⟩ rfl hn hsize hst (lv_room hcat) hdg hf) kk
theorem kc_np (S : CallFix p m c cc nL s args Ts own) {P : Int → Prop} (hM : kMp l y wsy rm D cl tys w ns σ As P) (cw : va_CN R s args own index y host bytes maxL ret wsy rm 0 0 n ∧ (Cond.static y).before args s = true ∧ True) (hK : va_K D cl tys s) (hN : kNw ns s) (hP : va_P D cl (w σ) H)
    (hn : As.length = n) (hsize : ls.size = nL) (hst : st = As.reverse ++ rest) (hcat : (rest.map fun v => v.category).sum ≤ 8) (hdg : decode cc pc = .ok (.invokestatic index, 3)) (hf : cells ≤ R.cells ∧ slots ≤ R.slots)
    (kk : ∀ r : Int, P r → W p l e R s m args below meth c H locs cells slots Q (F0 m (pc + 3) ls (.int (iI r) :: rest))) : W p l e R s m args below meth c H locs cells slots Q (F0 m pc ls st) :=
  kc_kp (va_runSN (As := As) (rest := rest) S hM cw ⟨kPp.blind, kPreP hK hN hP⟩ rfl hn hsize hst (lv_room hcat) hdg hf) kk
end KC
end KX
