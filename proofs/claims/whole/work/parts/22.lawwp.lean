/-! the skeleton's own words of the law's start and end -/
def R_law : String := "PeelRibbonsLaw"
def lw_P (b : Addr) (xs : List Int32) (args : Array Value) (s : State) : Prop := args = #[.ref b] ∧ s.IntsAt b xs ∧ xs.length ≤ 2562 ∧ (Jvm.Cond.and given_1 narrow_1).before args s = true
def lw_Q (_ : Array Value) (s : State) (o : Outcome) (t : State) : Prop := o = .returned (some (.int 1)) ∧ Framed s o t [] 601024 7293000
def lw_Z (below : List Frame) (a : Array Value) (s : State) : State → Prop := fun t => ∃ o, t.status = .running ∧ Ended t below o ∧ lw_Q a s o t
/-- the law's own end, with 1 on the stack, nothing written that was there before, its room as the claim has it -/
theorem lw_ret {p : Program} {l : Launch} {e : Env} {s : State} {m : MethodId} {below : List Frame} {meth : Method} {c : Code} {b : Nat} (hx : p.tables.exec = Jvm.exec) (hb : c.code = code) (hr : meth.sig.returnType = ret) (hlocks : meth.locks = false) {pc : Nat} {H : Heap} {ls : Array Slot} (hdg : decode code pc = .ok (.ireturn, 1)) : W p l e room_1 s m #[Value.ref b] below meth c H [] 601024 7293000 (lw_Z below #[Value.ref b] s) (F0 m pc ls [.int 1]) := by
  intro T hT X
  obtain ⟨fs, hret, hrun, hended, hW, hframe⟩ := X.leave (v := some (.int 1)) (hlocks := hlocks) (fun h => by rw [hr] at h; cases h)
  have hmeth' : T.vm.method? m = some meth := X.method'
  refine ⟨T.setFrames fs, ?_, .returned (some (.int 1)), hrun, hended, rfl, ⟨_, rfl⟩, hW, hframe⟩
  jvm_step X.here [X.here.top, hx, hb, hdg, hmeth', hr, ret, narrow_b1]
  (try refine ⟨rfl, ?_⟩); (try refine ⟨rfl, ?_⟩)
  first | (intro acts; rw [hret _ acts rfl rfl rfl]) | rw [hret _ _ rfl rfl rfl]
  exact Steps.refl _
/-- what holds at the law's entry: the machine, the code, the tables' words (any of lw_tbl by 'hts w (by decide +kernel)'), the script of L ints xs at the cell b, what the Statement gives of the start (any of its parts by flat_of_before) -/
def lw_At (p : Program) (s : State) (m : MethodId) (meth : Method) (c : Code) (b L : Nat) (xs : Nat → Int32) : Prop :=
  p.tables.exec = Jvm.exec ∧ c.code = code ∧ meth.sig.returnType = ret ∧ c.maxLocals = 7 ∧ s.vm.findClass R_law = some m.cls ∧ (∀ w ∈ lw_tbl, w.before #[Value.ref b] s = true) ∧ va_X b L xs s s.heap ∧ b < s.heap.size ∧ meth.locks = false ∧ (Jvm.Cond.and given_1 narrow_1).before #[Value.ref b] s = true
def xI (xs : Nat → Int32) (z : Int) : Int := (xs z.toNat).toInt
set_option maxRecDepth 20000 in
theorem mw_0 : Jvm.Cond.initialized "PeelRibbonsLaw" ∈ gG := gG_of (List.mem_of_getElem? (i := 24) rfl) rfl
set_option maxRecDepth 20000 in
theorem mw_237 : Jvm.Cond.methodLink "PeelRibbonsLaw" (86 : Nat) ({ cls := "PeelRibbons", name := "room", desc := "()I" } : Jvm.MethodName) ∈ gG := gG_of (List.mem_of_getElem? (i := 261) rfl) rfl
set_option maxRecDepth 20000 in
theorem mw_238 : Jvm.Cond.instanceMethod ({ cls := "PeelRibbons", name := "room", desc := "()I" } : Jvm.MethodName) ∈ gG := gG_of (List.mem_of_getElem? (i := 262) rfl) rfl
set_option maxRecDepth 20000 in
theorem mw_239 : Jvm.Cond.selects "PeelRibbons" ({ cls := "PeelRibbons", name := "room", desc := "()I" } : Jvm.MethodName) ({ cls := "PeelRibbons", name := "room", desc := "()I" } : Jvm.MethodName) ∈ gG := gG_of (List.mem_of_getElem? (i := 263) rfl) rfl
set_option maxRecDepth 20000 in
theorem mw_305 : Jvm.Cond.methodLink "PeelRibbonsLaw" (94 : Nat) ({ cls := "PeelRibbons", name := "radius", desc := "()I" } : Jvm.MethodName) ∈ gG := gG_of (List.mem_of_getElem? (i := 329) rfl) rfl
set_option maxRecDepth 20000 in
theorem mw_306 : Jvm.Cond.instanceMethod ({ cls := "PeelRibbons", name := "radius", desc := "()I" } : Jvm.MethodName) ∈ gG := gG_of (List.mem_of_getElem? (i := 330) rfl) rfl
set_option maxRecDepth 20000 in
theorem mw_307 : Jvm.Cond.selects "PeelRibbons" ({ cls := "PeelRibbons", name := "radius", desc := "()I" } : Jvm.MethodName) ({ cls := "PeelRibbons", name := "radius", desc := "()I" } : Jvm.MethodName) ∈ gG := gG_of (List.mem_of_getElem? (i := 331) rfl) rfl
set_option maxRecDepth 20000 in
theorem mw_319 : Jvm.Cond.methodLink "PeelRibbonsLaw" (78 : Nat) ({ cls := "PeelRibbonsLaw", name := "cell", desc := "(LPeelRibbons;IIIZ[J)I" } : Jvm.MethodName) ∈ gG := gG_of (List.mem_of_getElem? (i := 343) rfl) rfl
set_option maxRecDepth 20000 in
theorem mw_320 : Jvm.Cond.static ({ cls := "PeelRibbonsLaw", name := "cell", desc := "(LPeelRibbons;IIIZ[J)I" } : Jvm.MethodName) ∈ gG := gG_of (List.mem_of_getElem? (i := 344) rfl) rfl
set_option maxRecDepth 20000 in
theorem mw_418 : Jvm.Cond.methodLink "PeelRibbonsLaw" (90 : Nat) ({ cls := "PeelRibbonsLaw", name := "axis", desc := "(LPeelRibbons;I[J)I" } : Jvm.MethodName) ∈ gG := gG_of (List.mem_of_getElem? (i := 442) rfl) rfl
set_option maxRecDepth 20000 in
theorem mw_419 : Jvm.Cond.static ({ cls := "PeelRibbonsLaw", name := "axis", desc := "(LPeelRibbons;I[J)I" } : Jvm.MethodName) ∈ gG := gG_of (List.mem_of_getElem? (i := 443) rfl) rfl
set_option maxRecDepth 20000 in
theorem mw_431 : Jvm.Cond.methodLink "PeelRibbonsLaw" (98 : Nat) ({ cls := "PeelRibbonsLaw", name := "roomOf", desc := "(LPeelRibbons;IIII[J)I" } : Jvm.MethodName) ∈ gG := gG_of (List.mem_of_getElem? (i := 455) rfl) rfl
set_option maxRecDepth 20000 in
theorem mw_432 : Jvm.Cond.static ({ cls := "PeelRibbonsLaw", name := "roomOf", desc := "(LPeelRibbons;IIII[J)I" } : Jvm.MethodName) ∈ gG := gG_of (List.mem_of_getElem? (i := 456) rfl) rfl
set_option maxRecDepth 20000 in
theorem mw_447 : Jvm.Cond.methodLink "PeelRibbonsLaw" (102 : Nat) ({ cls := "PeelRibbonsLaw", name := "peel", desc := "(LPeelRibbons;II[J)I" } : Jvm.MethodName) ∈ gG := gG_of (List.mem_of_getElem? (i := 471) rfl) rfl
set_option maxRecDepth 20000 in
theorem mw_448 : Jvm.Cond.static ({ cls := "PeelRibbonsLaw", name := "peel", desc := "(LPeelRibbons;II[J)I" } : Jvm.MethodName) ∈ gG := gG_of (List.mem_of_getElem? (i := 472) rfl) rfl
set_option maxRecDepth 20000 in
theorem mw_480 : Jvm.Cond.methodLink "PeelRibbonsLaw" (106 : Nat) ({ cls := "PeelRibbonsLaw", name := "before", desc := "(LPeelRibbons;I[J)I" } : Jvm.MethodName) ∈ gG := gG_of (List.mem_of_getElem? (i := 504) rfl) rfl
set_option maxRecDepth 20000 in
theorem mw_481 : Jvm.Cond.static ({ cls := "PeelRibbonsLaw", name := "before", desc := "(LPeelRibbons;I[J)I" } : Jvm.MethodName) ∈ gG := gG_of (List.mem_of_getElem? (i := 505) rfl) rfl
set_option maxRecDepth 20000 in
theorem mw_516 : Jvm.Cond.methodLink "PeelRibbonsLaw" (109 : Nat) ({ cls := "PeelRibbonsLaw", name := "fault", desc := "(LPeelRibbons;III[J)I" } : Jvm.MethodName) ∈ gG := gG_of (List.mem_of_getElem? (i := 540) rfl) rfl
set_option maxRecDepth 20000 in
theorem mw_517 : Jvm.Cond.static ({ cls := "PeelRibbonsLaw", name := "fault", desc := "(LPeelRibbons;III[J)I" } : Jvm.MethodName) ∈ gG := gG_of (List.mem_of_getElem? (i := 541) rfl) rfl
set_option maxRecDepth 20000 in
theorem mw_536 : Jvm.Cond.methodLink "PeelRibbonsLaw" (113 : Nat) ({ cls := "PeelRibbonsLaw", name := "unrolled", desc := "(LPeelRibbons;I[J)I" } : Jvm.MethodName) ∈ gG := gG_of (List.mem_of_getElem? (i := 560) rfl) rfl
set_option maxRecDepth 20000 in
theorem mw_537 : Jvm.Cond.static ({ cls := "PeelRibbonsLaw", name := "unrolled", desc := "(LPeelRibbons;I[J)I" } : Jvm.MethodName) ∈ gG := gG_of (List.mem_of_getElem? (i := 561) rfl) rfl
set_option maxRecDepth 20000 in
theorem mw_558 : Jvm.Cond.methodLink "PeelRibbonsLaw" (116 : Nat) ({ cls := "PeelRibbonsLaw", name := "leaf", desc := "(LPeelRibbons;II[J)I" } : Jvm.MethodName) ∈ gG := gG_of (List.mem_of_getElem? (i := 582) rfl) rfl
set_option maxRecDepth 20000 in
theorem mw_559 : Jvm.Cond.static ({ cls := "PeelRibbonsLaw", name := "leaf", desc := "(LPeelRibbons;II[J)I" } : Jvm.MethodName) ∈ gG := gG_of (List.mem_of_getElem? (i := 583) rfl) rfl
set_option maxRecDepth 20000 in
theorem mw_576 : Jvm.Cond.methodLink "PeelRibbonsLaw" (119 : Nat) ({ cls := "PeelRibbonsLaw", name := "bars", desc := "(LPeelRibbons;IIZ[J)I" } : Jvm.MethodName) ∈ gG := gG_of (List.mem_of_getElem? (i := 600) rfl) rfl
set_option maxRecDepth 20000 in
theorem mw_577 : Jvm.Cond.static ({ cls := "PeelRibbonsLaw", name := "bars", desc := "(LPeelRibbons;IIZ[J)I" } : Jvm.MethodName) ∈ gG := gG_of (List.mem_of_getElem? (i := 601) rfl) rfl
set_option maxRecDepth 20000 in
theorem mw_597 : Jvm.Cond.methodLink "PeelRibbonsLaw" (123 : Nat) ({ cls := "PeelRibbonsLaw", name := "clip", desc := "(LPeelRibbons;I[J)I" } : Jvm.MethodName) ∈ gG := gG_of (List.mem_of_getElem? (i := 621) rfl) rfl
set_option maxRecDepth 20000 in
theorem mw_598 : Jvm.Cond.static ({ cls := "PeelRibbonsLaw", name := "clip", desc := "(LPeelRibbons;I[J)I" } : Jvm.MethodName) ∈ gG := gG_of (List.mem_of_getElem? (i := 622) rfl) rfl
set_option maxRecDepth 20000 in
theorem mw_662 : Jvm.Cond.methodLink "PeelRibbonsLaw" (126 : Nat) ({ cls := "PeelRibbonsLaw", name := "at", desc := "(LPeelRibbons;II[J)I" } : Jvm.MethodName) ∈ gG := gG_of (List.mem_of_getElem? (i := 686) rfl) rfl
set_option maxRecDepth 20000 in
theorem mw_663 : Jvm.Cond.static ({ cls := "PeelRibbonsLaw", name := "at", desc := "(LPeelRibbons;II[J)I" } : Jvm.MethodName) ∈ gG := gG_of (List.mem_of_getElem? (i := 687) rfl) rfl
set_option maxRecDepth 20000 in
theorem mw_683 : Jvm.Cond.methodLink "PeelRibbonsLaw" (129 : Nat) ({ cls := "PeelRibbonsLaw", name := "clipped", desc := "(LPeelRibbons;I[J)I" } : Jvm.MethodName) ∈ gG := gG_of (List.mem_of_getElem? (i := 707) rfl) rfl
set_option maxRecDepth 20000 in
theorem mw_684 : Jvm.Cond.static ({ cls := "PeelRibbonsLaw", name := "clipped", desc := "(LPeelRibbons;I[J)I" } : Jvm.MethodName) ∈ gG := gG_of (List.mem_of_getElem? (i := 708) rfl) rfl
set_option maxRecDepth 20000 in
theorem mw_703 : Jvm.Cond.methodLink "PeelRibbonsLaw" (132 : Nat) ({ cls := "PeelRibbonsLaw", name := "shrink", desc := "(LPeelRibbons;III[J)I" } : Jvm.MethodName) ∈ gG := gG_of (List.mem_of_getElem? (i := 727) rfl) rfl
set_option maxRecDepth 20000 in
theorem mw_704 : Jvm.Cond.static ({ cls := "PeelRibbonsLaw", name := "shrink", desc := "(LPeelRibbons;III[J)I" } : Jvm.MethodName) ∈ gG := gG_of (List.mem_of_getElem? (i := 728) rfl) rfl
set_option maxRecDepth 20000 in
theorem mw_713 : Jvm.Cond.methodLink "PeelRibbonsLaw" (135 : Nat) ({ cls := "PeelRibbonsLaw", name := "row", desc := "(LPeelRibbons;II[J)I" } : Jvm.MethodName) ∈ gG := gG_of (List.mem_of_getElem? (i := 737) rfl) rfl
set_option maxRecDepth 20000 in
theorem mw_714 : Jvm.Cond.static ({ cls := "PeelRibbonsLaw", name := "row", desc := "(LPeelRibbons;II[J)I" } : Jvm.MethodName) ∈ gG := gG_of (List.mem_of_getElem? (i := 738) rfl) rfl
set_option maxRecDepth 20000 in
theorem mw_729 : Jvm.Cond.methodLink "PeelRibbonsLaw" (138 : Nat) ({ cls := "PeelRibbonsLaw", name := "knife", desc := "(LPeelRibbons;I[J)I" } : Jvm.MethodName) ∈ gG := gG_of (List.mem_of_getElem? (i := 753) rfl) rfl
set_option maxRecDepth 20000 in
theorem mw_730 : Jvm.Cond.static ({ cls := "PeelRibbonsLaw", name := "knife", desc := "(LPeelRibbons;I[J)I" } : Jvm.MethodName) ∈ gG := gG_of (List.mem_of_getElem? (i := 754) rfl) rfl
set_option maxRecDepth 20000 in
theorem mw_844 : Jvm.Cond.methodLink "PeelRibbonsLaw" (82 : Nat) ({ cls := "PeelRibbonsModel", name := "thrown", desc := "()I" } : Jvm.MethodName) ∈ gG := gG_of (List.mem_of_getElem? (i := 868) rfl) rfl
set_option maxRecDepth 20000 in
theorem mw_845 : Jvm.Cond.instanceMethod ({ cls := "PeelRibbonsModel", name := "thrown", desc := "()I" } : Jvm.MethodName) ∈ gG := gG_of (List.mem_of_getElem? (i := 869) rfl) rfl
set_option maxRecDepth 20000 in
theorem mw_846 : Jvm.Cond.selects "PeelRibbonsModel" ({ cls := "PeelRibbonsModel", name := "thrown", desc := "()I" } : Jvm.MethodName) ({ cls := "PeelRibbonsModel", name := "thrown", desc := "()I" } : Jvm.MethodName) ∈ gG := gG_of (List.mem_of_getElem? (i := 870) rfl) rfl
set_option maxRecDepth 20000 in
theorem mw_848 : Jvm.Cond.methodLink "PeelRibbonsLaw" (81 : Nat) ({ cls := "PeelRibbonsModel", name := "cell", desc := "(IIIZ)Z" } : Jvm.MethodName) ∈ gG := gG_of (List.mem_of_getElem? (i := 872) rfl) rfl
set_option maxRecDepth 20000 in
theorem mw_849 : Jvm.Cond.instanceMethod ({ cls := "PeelRibbonsModel", name := "cell", desc := "(IIIZ)Z" } : Jvm.MethodName) ∈ gG := gG_of (List.mem_of_getElem? (i := 873) rfl) rfl
set_option maxRecDepth 20000 in
theorem mw_850 : Jvm.Cond.selects "PeelRibbonsModel" ({ cls := "PeelRibbonsModel", name := "cell", desc := "(IIIZ)Z" } : Jvm.MethodName) ({ cls := "PeelRibbonsModel", name := "cell", desc := "(IIIZ)Z" } : Jvm.MethodName) ∈ gG := gG_of (List.mem_of_getElem? (i := 874) rfl) rfl
set_option maxRecDepth 20000 in
theorem mw_855 : Jvm.Cond.methodLink "PeelRibbonsLaw" (89 : Nat) ({ cls := "PeelRibbonsModel", name := "room", desc := "()I" } : Jvm.MethodName) ∈ gG := gG_of (List.mem_of_getElem? (i := 879) rfl) rfl
set_option maxRecDepth 20000 in
theorem mw_856 : Jvm.Cond.instanceMethod ({ cls := "PeelRibbonsModel", name := "room", desc := "()I" } : Jvm.MethodName) ∈ gG := gG_of (List.mem_of_getElem? (i := 880) rfl) rfl
set_option maxRecDepth 20000 in
theorem mw_857 : Jvm.Cond.selects "PeelRibbonsModel" ({ cls := "PeelRibbonsModel", name := "room", desc := "()I" } : Jvm.MethodName) ({ cls := "PeelRibbonsModel", name := "room", desc := "()I" } : Jvm.MethodName) ∈ gG := gG_of (List.mem_of_getElem? (i := 881) rfl) rfl
set_option maxRecDepth 20000 in
theorem mw_878 : Jvm.Cond.methodLink "PeelRibbonsLaw" (93 : Nat) ({ cls := "PeelRibbonsModel", name := "axis", desc := "(I)I" } : Jvm.MethodName) ∈ gG := gG_of (List.mem_of_getElem? (i := 902) rfl) rfl
set_option maxRecDepth 20000 in
theorem mw_879 : Jvm.Cond.instanceMethod ({ cls := "PeelRibbonsModel", name := "axis", desc := "(I)I" } : Jvm.MethodName) ∈ gG := gG_of (List.mem_of_getElem? (i := 903) rfl) rfl
set_option maxRecDepth 20000 in
theorem mw_880 : Jvm.Cond.selects "PeelRibbonsModel" ({ cls := "PeelRibbonsModel", name := "axis", desc := "(I)I" } : Jvm.MethodName) ({ cls := "PeelRibbonsModel", name := "axis", desc := "(I)I" } : Jvm.MethodName) ∈ gG := gG_of (List.mem_of_getElem? (i := 904) rfl) rfl
set_option maxRecDepth 20000 in
theorem mw_882 : Jvm.Cond.methodLink "PeelRibbonsLaw" (97 : Nat) ({ cls := "PeelRibbonsModel", name := "radius", desc := "()I" } : Jvm.MethodName) ∈ gG := gG_of (List.mem_of_getElem? (i := 906) rfl) rfl
set_option maxRecDepth 20000 in
theorem mw_886 : Jvm.Cond.methodLink "PeelRibbonsLaw" (101 : Nat) ({ cls := "PeelRibbonsModel", name := "roomOf", desc := "(IIII)I" } : Jvm.MethodName) ∈ gG := gG_of (List.mem_of_getElem? (i := 910) rfl) rfl
set_option maxRecDepth 20000 in
theorem mw_887 : Jvm.Cond.instanceMethod ({ cls := "PeelRibbonsModel", name := "roomOf", desc := "(IIII)I" } : Jvm.MethodName) ∈ gG := gG_of (List.mem_of_getElem? (i := 911) rfl) rfl
set_option maxRecDepth 20000 in
theorem mw_888 : Jvm.Cond.selects "PeelRibbonsModel" ({ cls := "PeelRibbonsModel", name := "roomOf", desc := "(IIII)I" } : Jvm.MethodName) ({ cls := "PeelRibbonsModel", name := "roomOf", desc := "(IIII)I" } : Jvm.MethodName) ∈ gG := gG_of (List.mem_of_getElem? (i := 912) rfl) rfl
set_option maxRecDepth 20000 in
theorem mw_890 : Jvm.Cond.methodLink "PeelRibbonsLaw" (105 : Nat) ({ cls := "PeelRibbonsModel", name := "peel", desc := "(II)I" } : Jvm.MethodName) ∈ gG := gG_of (List.mem_of_getElem? (i := 914) rfl) rfl
set_option maxRecDepth 20000 in
theorem mw_891 : Jvm.Cond.instanceMethod ({ cls := "PeelRibbonsModel", name := "peel", desc := "(II)I" } : Jvm.MethodName) ∈ gG := gG_of (List.mem_of_getElem? (i := 915) rfl) rfl
set_option maxRecDepth 20000 in
theorem mw_892 : Jvm.Cond.selects "PeelRibbonsModel" ({ cls := "PeelRibbonsModel", name := "peel", desc := "(II)I" } : Jvm.MethodName) ({ cls := "PeelRibbonsModel", name := "peel", desc := "(II)I" } : Jvm.MethodName) ∈ gG := gG_of (List.mem_of_getElem? (i := 916) rfl) rfl
set_option maxRecDepth 20000 in
theorem mw_895 : Jvm.Cond.methodLink "PeelRibbonsLaw" (108 : Nat) ({ cls := "PeelRibbonsModel", name := "before", desc := "(I)I" } : Jvm.MethodName) ∈ gG := gG_of (List.mem_of_getElem? (i := 919) rfl) rfl
set_option maxRecDepth 20000 in
theorem mw_896 : Jvm.Cond.instanceMethod ({ cls := "PeelRibbonsModel", name := "before", desc := "(I)I" } : Jvm.MethodName) ∈ gG := gG_of (List.mem_of_getElem? (i := 920) rfl) rfl
set_option maxRecDepth 20000 in
theorem mw_897 : Jvm.Cond.selects "PeelRibbonsModel" ({ cls := "PeelRibbonsModel", name := "before", desc := "(I)I" } : Jvm.MethodName) ({ cls := "PeelRibbonsModel", name := "before", desc := "(I)I" } : Jvm.MethodName) ∈ gG := gG_of (List.mem_of_getElem? (i := 921) rfl) rfl
set_option maxRecDepth 20000 in
theorem mw_903 : Jvm.Cond.methodLink "PeelRibbonsLaw" (112 : Nat) ({ cls := "PeelRibbonsModel", name := "fault", desc := "(III)I" } : Jvm.MethodName) ∈ gG := gG_of (List.mem_of_getElem? (i := 927) rfl) rfl
set_option maxRecDepth 20000 in
theorem mw_904 : Jvm.Cond.instanceMethod ({ cls := "PeelRibbonsModel", name := "fault", desc := "(III)I" } : Jvm.MethodName) ∈ gG := gG_of (List.mem_of_getElem? (i := 928) rfl) rfl
set_option maxRecDepth 20000 in
theorem mw_905 : Jvm.Cond.selects "PeelRibbonsModel" ({ cls := "PeelRibbonsModel", name := "fault", desc := "(III)I" } : Jvm.MethodName) ({ cls := "PeelRibbonsModel", name := "fault", desc := "(III)I" } : Jvm.MethodName) ∈ gG := gG_of (List.mem_of_getElem? (i := 929) rfl) rfl
set_option maxRecDepth 20000 in
theorem mw_907 : Jvm.Cond.methodLink "PeelRibbonsLaw" (115 : Nat) ({ cls := "PeelRibbonsModel", name := "unrolled", desc := "(I)I" } : Jvm.MethodName) ∈ gG := gG_of (List.mem_of_getElem? (i := 931) rfl) rfl
set_option maxRecDepth 20000 in
theorem mw_908 : Jvm.Cond.instanceMethod ({ cls := "PeelRibbonsModel", name := "unrolled", desc := "(I)I" } : Jvm.MethodName) ∈ gG := gG_of (List.mem_of_getElem? (i := 932) rfl) rfl
set_option maxRecDepth 20000 in
theorem mw_909 : Jvm.Cond.selects "PeelRibbonsModel" ({ cls := "PeelRibbonsModel", name := "unrolled", desc := "(I)I" } : Jvm.MethodName) ({ cls := "PeelRibbonsModel", name := "unrolled", desc := "(I)I" } : Jvm.MethodName) ∈ gG := gG_of (List.mem_of_getElem? (i := 933) rfl) rfl
set_option maxRecDepth 20000 in
theorem mw_915 : Jvm.Cond.methodLink "PeelRibbonsLaw" (118 : Nat) ({ cls := "PeelRibbonsModel", name := "leaf", desc := "(II)I" } : Jvm.MethodName) ∈ gG := gG_of (List.mem_of_getElem? (i := 939) rfl) rfl
set_option maxRecDepth 20000 in
theorem mw_916 : Jvm.Cond.instanceMethod ({ cls := "PeelRibbonsModel", name := "leaf", desc := "(II)I" } : Jvm.MethodName) ∈ gG := gG_of (List.mem_of_getElem? (i := 940) rfl) rfl
set_option maxRecDepth 20000 in
theorem mw_917 : Jvm.Cond.selects "PeelRibbonsModel" ({ cls := "PeelRibbonsModel", name := "leaf", desc := "(II)I" } : Jvm.MethodName) ({ cls := "PeelRibbonsModel", name := "leaf", desc := "(II)I" } : Jvm.MethodName) ∈ gG := gG_of (List.mem_of_getElem? (i := 941) rfl) rfl
set_option maxRecDepth 20000 in
theorem mw_919 : Jvm.Cond.methodLink "PeelRibbonsLaw" (122 : Nat) ({ cls := "PeelRibbonsModel", name := "bars", desc := "(IIZ)Z" } : Jvm.MethodName) ∈ gG := gG_of (List.mem_of_getElem? (i := 943) rfl) rfl
set_option maxRecDepth 20000 in
theorem mw_920 : Jvm.Cond.instanceMethod ({ cls := "PeelRibbonsModel", name := "bars", desc := "(IIZ)Z" } : Jvm.MethodName) ∈ gG := gG_of (List.mem_of_getElem? (i := 944) rfl) rfl
set_option maxRecDepth 20000 in
theorem mw_921 : Jvm.Cond.selects "PeelRibbonsModel" ({ cls := "PeelRibbonsModel", name := "bars", desc := "(IIZ)Z" } : Jvm.MethodName) ({ cls := "PeelRibbonsModel", name := "bars", desc := "(IIZ)Z" } : Jvm.MethodName) ∈ gG := gG_of (List.mem_of_getElem? (i := 945) rfl) rfl
set_option maxRecDepth 20000 in
theorem mw_923 : Jvm.Cond.methodLink "PeelRibbonsLaw" (125 : Nat) ({ cls := "PeelRibbonsModel", name := "clip", desc := "(I)I" } : Jvm.MethodName) ∈ gG := gG_of (List.mem_of_getElem? (i := 947) rfl) rfl
set_option maxRecDepth 20000 in
theorem mw_924 : Jvm.Cond.instanceMethod ({ cls := "PeelRibbonsModel", name := "clip", desc := "(I)I" } : Jvm.MethodName) ∈ gG := gG_of (List.mem_of_getElem? (i := 948) rfl) rfl
set_option maxRecDepth 20000 in
theorem mw_925 : Jvm.Cond.selects "PeelRibbonsModel" ({ cls := "PeelRibbonsModel", name := "clip", desc := "(I)I" } : Jvm.MethodName) ({ cls := "PeelRibbonsModel", name := "clip", desc := "(I)I" } : Jvm.MethodName) ∈ gG := gG_of (List.mem_of_getElem? (i := 949) rfl) rfl
set_option maxRecDepth 20000 in
theorem mw_935 : Jvm.Cond.methodLink "PeelRibbonsLaw" (128 : Nat) ({ cls := "PeelRibbonsModel", name := "at", desc := "(II)I" } : Jvm.MethodName) ∈ gG := gG_of (List.mem_of_getElem? (i := 959) rfl) rfl
set_option maxRecDepth 20000 in
theorem mw_936 : Jvm.Cond.instanceMethod ({ cls := "PeelRibbonsModel", name := "at", desc := "(II)I" } : Jvm.MethodName) ∈ gG := gG_of (List.mem_of_getElem? (i := 960) rfl) rfl
set_option maxRecDepth 20000 in
theorem mw_937 : Jvm.Cond.selects "PeelRibbonsModel" ({ cls := "PeelRibbonsModel", name := "at", desc := "(II)I" } : Jvm.MethodName) ({ cls := "PeelRibbonsModel", name := "at", desc := "(II)I" } : Jvm.MethodName) ∈ gG := gG_of (List.mem_of_getElem? (i := 961) rfl) rfl
set_option maxRecDepth 20000 in
theorem mw_939 : Jvm.Cond.methodLink "PeelRibbonsLaw" (131 : Nat) ({ cls := "PeelRibbonsModel", name := "clipped", desc := "(I)I" } : Jvm.MethodName) ∈ gG := gG_of (List.mem_of_getElem? (i := 963) rfl) rfl
set_option maxRecDepth 20000 in
theorem mw_940 : Jvm.Cond.instanceMethod ({ cls := "PeelRibbonsModel", name := "clipped", desc := "(I)I" } : Jvm.MethodName) ∈ gG := gG_of (List.mem_of_getElem? (i := 964) rfl) rfl
set_option maxRecDepth 20000 in
theorem mw_941 : Jvm.Cond.selects "PeelRibbonsModel" ({ cls := "PeelRibbonsModel", name := "clipped", desc := "(I)I" } : Jvm.MethodName) ({ cls := "PeelRibbonsModel", name := "clipped", desc := "(I)I" } : Jvm.MethodName) ∈ gG := gG_of (List.mem_of_getElem? (i := 965) rfl) rfl
set_option maxRecDepth 20000 in
theorem mw_943 : Jvm.Cond.methodLink "PeelRibbonsLaw" (134 : Nat) ({ cls := "PeelRibbonsModel", name := "shrink", desc := "(III)I" } : Jvm.MethodName) ∈ gG := gG_of (List.mem_of_getElem? (i := 967) rfl) rfl
set_option maxRecDepth 20000 in
theorem mw_944 : Jvm.Cond.instanceMethod ({ cls := "PeelRibbonsModel", name := "shrink", desc := "(III)I" } : Jvm.MethodName) ∈ gG := gG_of (List.mem_of_getElem? (i := 968) rfl) rfl
set_option maxRecDepth 20000 in
theorem mw_945 : Jvm.Cond.selects "PeelRibbonsModel" ({ cls := "PeelRibbonsModel", name := "shrink", desc := "(III)I" } : Jvm.MethodName) ({ cls := "PeelRibbonsModel", name := "shrink", desc := "(III)I" } : Jvm.MethodName) ∈ gG := gG_of (List.mem_of_getElem? (i := 969) rfl) rfl
set_option maxRecDepth 20000 in
theorem mw_947 : Jvm.Cond.methodLink "PeelRibbonsLaw" (137 : Nat) ({ cls := "PeelRibbonsModel", name := "row", desc := "(II)Z" } : Jvm.MethodName) ∈ gG := gG_of (List.mem_of_getElem? (i := 971) rfl) rfl
set_option maxRecDepth 20000 in
theorem mw_948 : Jvm.Cond.instanceMethod ({ cls := "PeelRibbonsModel", name := "row", desc := "(II)Z" } : Jvm.MethodName) ∈ gG := gG_of (List.mem_of_getElem? (i := 972) rfl) rfl
set_option maxRecDepth 20000 in
theorem mw_949 : Jvm.Cond.selects "PeelRibbonsModel" ({ cls := "PeelRibbonsModel", name := "row", desc := "(II)Z" } : Jvm.MethodName) ({ cls := "PeelRibbonsModel", name := "row", desc := "(II)Z" } : Jvm.MethodName) ∈ gG := gG_of (List.mem_of_getElem? (i := 973) rfl) rfl
set_option maxRecDepth 20000 in
theorem mw_951 : Jvm.Cond.methodLink "PeelRibbonsLaw" (140 : Nat) ({ cls := "PeelRibbonsModel", name := "knife", desc := "(I)I" } : Jvm.MethodName) ∈ gG := gG_of (List.mem_of_getElem? (i := 975) rfl) rfl
set_option maxRecDepth 20000 in
theorem mw_952 : Jvm.Cond.instanceMethod ({ cls := "PeelRibbonsModel", name := "knife", desc := "(I)I" } : Jvm.MethodName) ∈ gG := gG_of (List.mem_of_getElem? (i := 976) rfl) rfl
set_option maxRecDepth 20000 in
theorem mw_953 : Jvm.Cond.selects "PeelRibbonsModel" ({ cls := "PeelRibbonsModel", name := "knife", desc := "(I)I" } : Jvm.MethodName) ({ cls := "PeelRibbonsModel", name := "knife", desc := "(I)I" } : Jvm.MethodName) ∈ gG := gG_of (List.mem_of_getElem? (i := 977) rfl) rfl
def jn_law0_246 (nn : Nat → Nat) (K : kM → Prop) (s2 : kM) (v3 : Int) : Prop := (lR (s2 26 0) ∧ lR v3) ∧ (((if v3 < (s2 26 0) then 1 else if (s2 26 0) = v3 then 0 else -1) = 0 → K s2) ∧ (¬ (if v3 < (s2 26 0) then 1 else if (s2 26 0) = v3 then 0 else -1) = 0 → False))
def jn_law0_212 (nn : Nat → Nat) (xs : Nat → Int32) (i : Int) (K : kM → Prop) (r1 : Int) (s1 : kM) (v2 : Int) : Prop := ∃ P2 : Int → kM → Prop, wp_M_cell nn s1 (xI xs (i + 1)) (xI xs (i + 2)) (xI xs (i + 3)) v2 P2 ∧ ∀ (r2 : Int) (s2 : kM), P2 r2 s2 → iR (s2 27 0) ∧ iR r1 ∧ (((s2 27 0) = r1 → iR r1 ∧ ((¬ r1 = 0 → K s2) ∧ (r1 = 0 → iR r2 ∧ ((r2 = 0 → jn_law0_246 nn K s2 0) ∧ (¬ r2 = 0 → jn_law0_246 nn K s2 1))))) ∧ (¬ (s2 27 0) = r1 → False))
def jn_law0_173 (nn : Nat → Nat) (σ : kM) (xs : Nat → Int32) (i : Int) (K : kM → Prop) (v1 : Int) : Prop := ∃ P1 : Int → kM → Prop, wp_W_cell nn σ (xI xs (i + 1)) (xI xs (i + 2)) (xI xs (i + 3)) v1 P1 ∧ ∀ (r1 : Int) (s1 : kM), P1 r1 s1 → iR (xI xs (i + 4)) ∧ (((xI xs (i + 4)) = 0 → jn_law0_212 nn xs i K r1 s1 0) ∧ (¬ (xI xs (i + 4)) = 0 → jn_law0_212 nn xs i K r1 s1 1))
def wl_0 (nn : Nat → Nat) (xs : Nat → Int32) (i : Int) (σ : kM) (K : kM → Prop) : Prop := iR (xI xs (i + 4)) ∧ (((xI xs (i + 4)) = 0 → jn_law0_173 nn σ xs i K 0) ∧ (¬ (xI xs (i + 4)) = 0 → jn_law0_173 nn σ xs i K 1))
def wl_1 (nn : Nat → Nat) (xs : Nat → Int32) (i : Int) (σ : kM) (K : kM → Prop) : Prop := ∃ P1 : Int → kM → Prop, wp_P_room nn σ P1 ∧ ∀ (r1 : Int) (s1 : kM), P1 r1 s1 → ∃ P2 : Int → kM → Prop, wp_M_room nn s1 P2 ∧ ∀ (r2 : Int) (s2 : kM), P2 r2 s2 → iR r1 ∧ iR r2 ∧ ((r1 = r2 → K s2) ∧ (¬ r1 = r2 → False))
def wl_2 (nn : Nat → Nat) (xs : Nat → Int32) (i : Int) (σ : kM) (K : kM → Prop) : Prop := ∃ P1 : Int → kM → Prop, wp_W_axis nn σ (xI xs (i + 1)) P1 ∧ ∀ (r1 : Int) (s1 : kM), P1 r1 s1 → ∃ P2 : Int → kM → Prop, wp_M_axis nn s1 (xI xs (i + 1)) P2 ∧ ∀ (r2 : Int) (s2 : kM), P2 r2 s2 → iR (s2 27 0) ∧ iR r1 ∧ (((s2 27 0) = r1 → iR r1 ∧ ((¬ r1 = 0 → K s2) ∧ (r1 = 0 → iR r2 ∧ (lR (s2 26 0) ∧ lR r2) ∧ (((if r2 < (s2 26 0) then 1 else if (s2 26 0) = r2 then 0 else -1) = 0 → K s2) ∧ (¬ (if r2 < (s2 26 0) then 1 else if (s2 26 0) = r2 then 0 else -1) = 0 → False))))) ∧ (¬ (s2 27 0) = r1 → False))
def wl_3 (nn : Nat → Nat) (xs : Nat → Int32) (i : Int) (σ : kM) (K : kM → Prop) : Prop := ∃ P1 : Int → kM → Prop, wp_P_radius nn σ P1 ∧ ∀ (r1 : Int) (s1 : kM), P1 r1 s1 → ∃ P2 : Int → kM → Prop, wp_M_radius nn s1 P2 ∧ ∀ (r2 : Int) (s2 : kM), P2 r2 s2 → iR r1 ∧ iR r2 ∧ ((r1 = r2 → K s2) ∧ (¬ r1 = r2 → False))
def wl_4 (nn : Nat → Nat) (xs : Nat → Int32) (i : Int) (σ : kM) (K : kM → Prop) : Prop := ∃ P1 : Int → kM → Prop, wp_W_roomOf nn σ (xI xs (i + 1)) (xI xs (i + 2)) (xI xs (i + 3)) (xI xs (i + 4)) P1 ∧ ∀ (r1 : Int) (s1 : kM), P1 r1 s1 → ∃ P2 : Int → kM → Prop, wp_M_roomOf nn s1 (xI xs (i + 1)) (xI xs (i + 2)) (xI xs (i + 3)) (xI xs (i + 4)) P2 ∧ ∀ (r2 : Int) (s2 : kM), P2 r2 s2 → iR (s2 27 0) ∧ iR r1 ∧ (((s2 27 0) = r1 → iR r1 ∧ ((¬ r1 = 0 → K s2) ∧ (r1 = 0 → iR r2 ∧ (lR (s2 26 0) ∧ lR r2) ∧ (((if r2 < (s2 26 0) then 1 else if (s2 26 0) = r2 then 0 else -1) = 0 → K s2) ∧ (¬ (if r2 < (s2 26 0) then 1 else if (s2 26 0) = r2 then 0 else -1) = 0 → False))))) ∧ (¬ (s2 27 0) = r1 → False))
def wl_5 (nn : Nat → Nat) (xs : Nat → Int32) (i : Int) (σ : kM) (K : kM → Prop) : Prop := ∃ P1 : Int → kM → Prop, wp_W_peel nn σ (xI xs (i + 1)) (xI xs (i + 2)) P1 ∧ ∀ (r1 : Int) (s1 : kM), P1 r1 s1 → ∃ P2 : Int → kM → Prop, wp_M_peel nn s1 (xI xs (i + 1)) (xI xs (i + 2)) P2 ∧ ∀ (r2 : Int) (s2 : kM), P2 r2 s2 → iR (s2 27 0) ∧ iR r1 ∧ (((s2 27 0) = r1 → iR r1 ∧ ((¬ r1 = 0 → K s2) ∧ (r1 = 0 → iR r2 ∧ (lR (s2 26 0) ∧ lR r2) ∧ (((if r2 < (s2 26 0) then 1 else if (s2 26 0) = r2 then 0 else -1) = 0 → K s2) ∧ (¬ (if r2 < (s2 26 0) then 1 else if (s2 26 0) = r2 then 0 else -1) = 0 → False))))) ∧ (¬ (s2 27 0) = r1 → False))
def wl_6 (nn : Nat → Nat) (xs : Nat → Int32) (i : Int) (σ : kM) (K : kM → Prop) : Prop := ∃ P1 : Int → kM → Prop, wp_W_before nn σ (xI xs (i + 1)) P1 ∧ ∀ (r1 : Int) (s1 : kM), P1 r1 s1 → ∃ P2 : Int → kM → Prop, wp_M_before nn s1 (xI xs (i + 1)) P2 ∧ ∀ (r2 : Int) (s2 : kM), P2 r2 s2 → iR (s2 27 0) ∧ iR r1 ∧ (((s2 27 0) = r1 → iR r1 ∧ ((¬ r1 = 0 → K s2) ∧ (r1 = 0 → iR r2 ∧ (lR (s2 26 0) ∧ lR r2) ∧ (((if r2 < (s2 26 0) then 1 else if (s2 26 0) = r2 then 0 else -1) = 0 → K s2) ∧ (¬ (if r2 < (s2 26 0) then 1 else if (s2 26 0) = r2 then 0 else -1) = 0 → False))))) ∧ (¬ (s2 27 0) = r1 → False))
def wl_7 (nn : Nat → Nat) (xs : Nat → Int32) (i : Int) (σ : kM) (K : kM → Prop) : Prop := ∃ P1 : Int → kM → Prop, wp_W_fault nn σ (xI xs (i + 1)) (xI xs (i + 2)) (xI xs (i + 3)) P1 ∧ ∀ (r1 : Int) (s1 : kM), P1 r1 s1 → ∃ P2 : Int → kM → Prop, wp_M_fault nn s1 (xI xs (i + 1)) (xI xs (i + 2)) (xI xs (i + 3)) P2 ∧ ∀ (r2 : Int) (s2 : kM), P2 r2 s2 → iR (s2 27 0) ∧ iR r1 ∧ (((s2 27 0) = r1 → iR r1 ∧ ((¬ r1 = 0 → K s2) ∧ (r1 = 0 → iR r2 ∧ (lR (s2 26 0) ∧ lR r2) ∧ (((if r2 < (s2 26 0) then 1 else if (s2 26 0) = r2 then 0 else -1) = 0 → K s2) ∧ (¬ (if r2 < (s2 26 0) then 1 else if (s2 26 0) = r2 then 0 else -1) = 0 → False))))) ∧ (¬ (s2 27 0) = r1 → False))
def wl_8 (nn : Nat → Nat) (xs : Nat → Int32) (i : Int) (σ : kM) (K : kM → Prop) : Prop := ∃ P1 : Int → kM → Prop, wp_W_unrolled nn σ (xI xs (i + 1)) P1 ∧ ∀ (r1 : Int) (s1 : kM), P1 r1 s1 → ∃ P2 : Int → kM → Prop, wp_M_unrolled nn s1 (xI xs (i + 1)) P2 ∧ ∀ (r2 : Int) (s2 : kM), P2 r2 s2 → iR (s2 27 0) ∧ iR r1 ∧ (((s2 27 0) = r1 → iR r1 ∧ ((¬ r1 = 0 → K s2) ∧ (r1 = 0 → iR r2 ∧ (lR (s2 26 0) ∧ lR r2) ∧ (((if r2 < (s2 26 0) then 1 else if (s2 26 0) = r2 then 0 else -1) = 0 → K s2) ∧ (¬ (if r2 < (s2 26 0) then 1 else if (s2 26 0) = r2 then 0 else -1) = 0 → False))))) ∧ (¬ (s2 27 0) = r1 → False))
def wl_9 (nn : Nat → Nat) (xs : Nat → Int32) (i : Int) (σ : kM) (K : kM → Prop) : Prop := ∃ P1 : Int → kM → Prop, wp_W_leaf nn σ (xI xs (i + 1)) (xI xs (i + 2)) P1 ∧ ∀ (r1 : Int) (s1 : kM), P1 r1 s1 → ∃ P2 : Int → kM → Prop, wp_M_leaf nn s1 (xI xs (i + 1)) (xI xs (i + 2)) P2 ∧ ∀ (r2 : Int) (s2 : kM), P2 r2 s2 → iR (s2 27 0) ∧ iR r1 ∧ (((s2 27 0) = r1 → iR r1 ∧ ((¬ r1 = 0 → K s2) ∧ (r1 = 0 → iR r2 ∧ (lR (s2 26 0) ∧ lR r2) ∧ (((if r2 < (s2 26 0) then 1 else if (s2 26 0) = r2 then 0 else -1) = 0 → K s2) ∧ (¬ (if r2 < (s2 26 0) then 1 else if (s2 26 0) = r2 then 0 else -1) = 0 → False))))) ∧ (¬ (s2 27 0) = r1 → False))
def jn_law10_851 (nn : Nat → Nat) (K : kM → Prop) (s2 : kM) (v3 : Int) : Prop := (lR (s2 26 0) ∧ lR v3) ∧ (((if v3 < (s2 26 0) then 1 else if (s2 26 0) = v3 then 0 else -1) = 0 → K s2) ∧ (¬ (if v3 < (s2 26 0) then 1 else if (s2 26 0) = v3 then 0 else -1) = 0 → False))
def jn_law10_817 (nn : Nat → Nat) (xs : Nat → Int32) (i : Int) (K : kM → Prop) (r1 : Int) (s1 : kM) (v2 : Int) : Prop := ∃ P2 : Int → kM → Prop, wp_M_bars nn s1 (xI xs (i + 1)) (xI xs (i + 2)) v2 P2 ∧ ∀ (r2 : Int) (s2 : kM), P2 r2 s2 → iR (s2 27 0) ∧ iR r1 ∧ (((s2 27 0) = r1 → iR r1 ∧ ((¬ r1 = 0 → K s2) ∧ (r1 = 0 → iR r2 ∧ ((r2 = 0 → jn_law10_851 nn K s2 0) ∧ (¬ r2 = 0 → jn_law10_851 nn K s2 1))))) ∧ (¬ (s2 27 0) = r1 → False))
def jn_law10_784 (nn : Nat → Nat) (σ : kM) (xs : Nat → Int32) (i : Int) (K : kM → Prop) (v1 : Int) : Prop := ∃ P1 : Int → kM → Prop, wp_W_bars nn σ (xI xs (i + 1)) (xI xs (i + 2)) v1 P1 ∧ ∀ (r1 : Int) (s1 : kM), P1 r1 s1 → iR (xI xs (i + 3)) ∧ (((xI xs (i + 3)) = 0 → jn_law10_817 nn xs i K r1 s1 0) ∧ (¬ (xI xs (i + 3)) = 0 → jn_law10_817 nn xs i K r1 s1 1))
def wl_10 (nn : Nat → Nat) (xs : Nat → Int32) (i : Int) (σ : kM) (K : kM → Prop) : Prop := iR (xI xs (i + 3)) ∧ (((xI xs (i + 3)) = 0 → jn_law10_784 nn σ xs i K 0) ∧ (¬ (xI xs (i + 3)) = 0 → jn_law10_784 nn σ xs i K 1))
def wl_11 (nn : Nat → Nat) (xs : Nat → Int32) (i : Int) (σ : kM) (K : kM → Prop) : Prop := ∃ P1 : Int → kM → Prop, wp_W_clip nn σ (xI xs (i + 1)) P1 ∧ ∀ (r1 : Int) (s1 : kM), P1 r1 s1 → ∃ P2 : Int → kM → Prop, wp_M_clip nn s1 (xI xs (i + 1)) P2 ∧ ∀ (r2 : Int) (s2 : kM), P2 r2 s2 → iR (s2 27 0) ∧ iR r1 ∧ (((s2 27 0) = r1 → iR r1 ∧ ((¬ r1 = 0 → K s2) ∧ (r1 = 0 → iR r2 ∧ (lR (s2 26 0) ∧ lR r2) ∧ (((if r2 < (s2 26 0) then 1 else if (s2 26 0) = r2 then 0 else -1) = 0 → K s2) ∧ (¬ (if r2 < (s2 26 0) then 1 else if (s2 26 0) = r2 then 0 else -1) = 0 → False))))) ∧ (¬ (s2 27 0) = r1 → False))
def wl_12 (nn : Nat → Nat) (xs : Nat → Int32) (i : Int) (σ : kM) (K : kM → Prop) : Prop := ∃ P1 : Int → kM → Prop, wp_W_at nn σ (xI xs (i + 1)) (xI xs (i + 2)) P1 ∧ ∀ (r1 : Int) (s1 : kM), P1 r1 s1 → ∃ P2 : Int → kM → Prop, wp_M_at nn s1 (xI xs (i + 1)) (xI xs (i + 2)) P2 ∧ ∀ (r2 : Int) (s2 : kM), P2 r2 s2 → iR (s2 27 0) ∧ iR r1 ∧ (((s2 27 0) = r1 → iR r1 ∧ ((¬ r1 = 0 → K s2) ∧ (r1 = 0 → iR r2 ∧ (lR (s2 26 0) ∧ lR r2) ∧ (((if r2 < (s2 26 0) then 1 else if (s2 26 0) = r2 then 0 else -1) = 0 → K s2) ∧ (¬ (if r2 < (s2 26 0) then 1 else if (s2 26 0) = r2 then 0 else -1) = 0 → False))))) ∧ (¬ (s2 27 0) = r1 → False))
def wl_13 (nn : Nat → Nat) (xs : Nat → Int32) (i : Int) (σ : kM) (K : kM → Prop) : Prop := ∃ P1 : Int → kM → Prop, wp_W_clipped nn σ (xI xs (i + 1)) P1 ∧ ∀ (r1 : Int) (s1 : kM), P1 r1 s1 → ∃ P2 : Int → kM → Prop, wp_M_clipped nn s1 (xI xs (i + 1)) P2 ∧ ∀ (r2 : Int) (s2 : kM), P2 r2 s2 → iR (s2 27 0) ∧ iR r1 ∧ (((s2 27 0) = r1 → iR r1 ∧ ((¬ r1 = 0 → K s2) ∧ (r1 = 0 → iR r2 ∧ (lR (s2 26 0) ∧ lR r2) ∧ (((if r2 < (s2 26 0) then 1 else if (s2 26 0) = r2 then 0 else -1) = 0 → K s2) ∧ (¬ (if r2 < (s2 26 0) then 1 else if (s2 26 0) = r2 then 0 else -1) = 0 → False))))) ∧ (¬ (s2 27 0) = r1 → False))
def wl_14 (nn : Nat → Nat) (xs : Nat → Int32) (i : Int) (σ : kM) (K : kM → Prop) : Prop := ∃ P1 : Int → kM → Prop, wp_W_shrink nn σ (xI xs (i + 1)) (xI xs (i + 2)) (xI xs (i + 3)) P1 ∧ ∀ (r1 : Int) (s1 : kM), P1 r1 s1 → ∃ P2 : Int → kM → Prop, wp_M_shrink nn s1 (xI xs (i + 1)) (xI xs (i + 2)) (xI xs (i + 3)) P2 ∧ ∀ (r2 : Int) (s2 : kM), P2 r2 s2 → iR (s2 27 0) ∧ iR r1 ∧ (((s2 27 0) = r1 → iR r1 ∧ ((¬ r1 = 0 → K s2) ∧ (r1 = 0 → iR r2 ∧ (lR (s2 26 0) ∧ lR r2) ∧ (((if r2 < (s2 26 0) then 1 else if (s2 26 0) = r2 then 0 else -1) = 0 → K s2) ∧ (¬ (if r2 < (s2 26 0) then 1 else if (s2 26 0) = r2 then 0 else -1) = 0 → False))))) ∧ (¬ (s2 27 0) = r1 → False))
def jn_law15_1186 (nn : Nat → Nat) (K : kM → Prop) (s2 : kM) (v1 : Int) : Prop := (lR (s2 26 0) ∧ lR v1) ∧ (((if v1 < (s2 26 0) then 1 else if (s2 26 0) = v1 then 0 else -1) = 0 → K s2) ∧ (¬ (if v1 < (s2 26 0) then 1 else if (s2 26 0) = v1 then 0 else -1) = 0 → False))
def wl_15 (nn : Nat → Nat) (xs : Nat → Int32) (i : Int) (σ : kM) (K : kM → Prop) : Prop := ∃ P1 : Int → kM → Prop, wp_W_row nn σ (xI xs (i + 1)) (xI xs (i + 2)) P1 ∧ ∀ (r1 : Int) (s1 : kM), P1 r1 s1 → ∃ P2 : Int → kM → Prop, wp_M_row nn s1 (xI xs (i + 1)) (xI xs (i + 2)) P2 ∧ ∀ (r2 : Int) (s2 : kM), P2 r2 s2 → iR (s2 27 0) ∧ iR r1 ∧ (((s2 27 0) = r1 → iR r1 ∧ ((¬ r1 = 0 → K s2) ∧ (r1 = 0 → iR r2 ∧ ((r2 = 0 → jn_law15_1186 nn K s2 0) ∧ (¬ r2 = 0 → jn_law15_1186 nn K s2 1))))) ∧ (¬ (s2 27 0) = r1 → False))
def wl_16 (nn : Nat → Nat) (xs : Nat → Int32) (i : Int) (σ : kM) (K : kM → Prop) : Prop := ∃ P1 : Int → kM → Prop, wp_W_knife nn σ (xI xs (i + 1)) P1 ∧ ∀ (r1 : Int) (s1 : kM), P1 r1 s1 → ∃ P2 : Int → kM → Prop, wp_M_knife nn s1 (xI xs (i + 1)) P2 ∧ ∀ (r2 : Int) (s2 : kM), P2 r2 s2 → iR (s2 27 0) ∧ iR r1 ∧ (((s2 27 0) = r1 → iR r1 ∧ ((¬ r1 = 0 → K s2) ∧ (r1 = 0 → iR r2 ∧ (lR (s2 26 0) ∧ lR r2) ∧ (((if r2 < (s2 26 0) then 1 else if (s2 26 0) = r2 then 0 else -1) = 0 → K s2) ∧ (¬ (if r2 < (s2 26 0) then 1 else if (s2 26 0) = r2 then 0 else -1) = 0 → False))))) ∧ (¬ (s2 27 0) = r1 → False))
