set_option maxRecDepth 20000 in
theorem mw_10 : Jvm.Cond.initialized "PeelRibbonsModel" ∈ gG := gG_of (List.mem_of_getElem? (i := 35) rfl) rfl
set_option maxRecDepth 20000 in
theorem mw_739 : Jvm.Cond.fieldLink "PeelRibbonsModel" (70 : Nat) "PeelRibbonsModel" "thrown" "I" ∈ gG := gG_of (List.mem_of_getElem? (i := 764) rfl) rfl
set_option maxRecDepth 20000 in
theorem mw_740 : Jvm.Cond.fieldLink "PeelRibbonsModel" (60 : Nat) "PeelRibbonsModel" "slices" "I" ∈ gG := gG_of (List.mem_of_getElem? (i := 765) rfl) rfl
set_option maxRecDepth 20000 in
theorem mw_741 : Jvm.Cond.fieldLink "PeelRibbonsModel" (64 : Nat) "PeelRibbonsModel" "side" "I" ∈ gG := gG_of (List.mem_of_getElem? (i := 766) rfl) rfl
set_option maxRecDepth 20000 in
theorem mw_742 : Jvm.Cond.fieldLink "PeelRibbonsModel" (67 : Nat) "PeelRibbonsModel" "parts" "I" ∈ gG := gG_of (List.mem_of_getElem? (i := 767) rfl) rfl
set_option maxRecDepth 20000 in
theorem mw_743 : Jvm.Cond.fieldLink "PeelRibbonsModel" (7 : Nat) "PeelRibbonsModel" "in" "[Z" ∈ gG := gG_of (List.mem_of_getElem? (i := 768) rfl) rfl
set_option maxRecDepth 20000 in
theorem mw_744 : Jvm.Cond.fieldLink "PeelRibbonsModel" (13 : Nat) "PeelRibbonsModel" "squares" "[I" ∈ gG := gG_of (List.mem_of_getElem? (i := 769) rfl) rfl
set_option maxRecDepth 20000 in
theorem mw_745 : Jvm.Cond.fieldLink "PeelRibbonsModel" (77 : Nat) "PeelRibbonsModel" "known" "Z" ∈ gG := gG_of (List.mem_of_getElem? (i := 770) rfl) rfl
set_option maxRecDepth 20000 in
theorem mw_746 : Jvm.Cond.fieldLink "PeelRibbonsModel" (99 : Nat) "PeelRibbonsModel" "room" "I" ∈ gG := gG_of (List.mem_of_getElem? (i := 771) rfl) rfl
set_option maxRecDepth 20000 in
theorem mw_747 : Jvm.Cond.fieldLink "PeelRibbonsModel" (17 : Nat) "PeelRibbonsModel" "axis" "[I" ∈ gG := gG_of (List.mem_of_getElem? (i := 772) rfl) rfl
set_option maxRecDepth 20000 in
theorem mw_748 : Jvm.Cond.fieldLink "PeelRibbonsModel" (81 : Nat) "PeelRibbonsModel" "peeled" "Z" ∈ gG := gG_of (List.mem_of_getElem? (i := 773) rfl) rfl
set_option maxRecDepth 20000 in
theorem mw_749 : Jvm.Cond.fieldLink "PeelRibbonsModel" (115 : Nat) "PeelRibbonsModel" "thick" "I" ∈ gG := gG_of (List.mem_of_getElem? (i := 774) rfl) rfl
set_option maxRecDepth 20000 in
theorem mw_750 : Jvm.Cond.fieldLink "PeelRibbonsModel" (118 : Nat) "PeelRibbonsModel" "turns" "I" ∈ gG := gG_of (List.mem_of_getElem? (i := 775) rfl) rfl
set_option maxRecDepth 20000 in
theorem mw_751 : Jvm.Cond.fieldLink "PeelRibbonsModel" (113 : Nat) "PeelRibbonsModel" "radius" "I" ∈ gG := gG_of (List.mem_of_getElem? (i := 776) rfl) rfl
set_option maxRecDepth 20000 in
theorem mw_752 : Jvm.Cond.fieldLink "PeelRibbonsModel" (20 : Nat) "PeelRibbonsModel" "angles" "[I" ∈ gG := gG_of (List.mem_of_getElem? (i := 777) rfl) rfl
set_option maxRecDepth 20000 in
theorem mw_753 : Jvm.Cond.fieldLink "PeelRibbonsModel" (23 : Nat) "PeelRibbonsModel" "radii" "[I" ∈ gG := gG_of (List.mem_of_getElem? (i := 778) rfl) rfl
set_option maxRecDepth 20000 in
theorem mw_754 : Jvm.Cond.fieldLink "PeelRibbonsModel" (26 : Nat) "PeelRibbonsModel" "kinds" "[I" ∈ gG := gG_of (List.mem_of_getElem? (i := 779) rfl) rfl
set_option maxRecDepth 20000 in
theorem mw_755 : Jvm.Cond.fieldLink "PeelRibbonsModel" (125 : Nat) "PeelRibbonsModel" "faults" "I" ∈ gG := gG_of (List.mem_of_getElem? (i := 780) rfl) rfl
set_option maxRecDepth 20000 in
theorem mw_756 : Jvm.Cond.fieldLink "PeelRibbonsModel" (29 : Nat) "PeelRibbonsModel" "widths" "[I" ∈ gG := gG_of (List.mem_of_getElem? (i := 781) rfl) rfl
set_option maxRecDepth 20000 in
theorem mw_757 : Jvm.Cond.fieldLink "PeelRibbonsModel" (32 : Nat) "PeelRibbonsModel" "worths" "[I" ∈ gG := gG_of (List.mem_of_getElem? (i := 782) rfl) rfl
set_option maxRecDepth 20000 in
theorem mw_758 : Jvm.Cond.fieldLink "PeelRibbonsModel" (35 : Nat) "PeelRibbonsModel" "barred" "[I" ∈ gG := gG_of (List.mem_of_getElem? (i := 783) rfl) rfl
set_option maxRecDepth 20000 in
theorem mw_759 : Jvm.Cond.fieldLink "PeelRibbonsModel" (131 : Nat) "PeelRibbonsModel" "leaves" "I" ∈ gG := gG_of (List.mem_of_getElem? (i := 784) rfl) rfl
set_option maxRecDepth 20000 in
theorem mw_760 : Jvm.Cond.fieldLink "PeelRibbonsModel" (84 : Nat) "PeelRibbonsModel" "clipped" "Z" ∈ gG := gG_of (List.mem_of_getElem? (i := 785) rfl) rfl
set_option maxRecDepth 20000 in
theorem mw_761 : Jvm.Cond.fieldLink "PeelRibbonsModel" (134 : Nat) "PeelRibbonsModel" "steps" "I" ∈ gG := gG_of (List.mem_of_getElem? (i := 786) rfl) rfl
set_option maxRecDepth 20000 in
theorem mw_762 : Jvm.Cond.fieldLink "PeelRibbonsModel" (38 : Nat) "PeelRibbonsModel" "marks" "[I" ∈ gG := gG_of (List.mem_of_getElem? (i := 787) rfl) rfl
set_option maxRecDepth 20000 in
theorem mw_763 : Jvm.Cond.fieldLink "PeelRibbonsModel" (41 : Nat) "PeelRibbonsModel" "best" "[J" ∈ gG := gG_of (List.mem_of_getElem? (i := 788) rfl) rfl
set_option maxRecDepth 20000 in
theorem mw_764 : Jvm.Cond.fieldLink "PeelRibbonsModel" (45 : Nat) "PeelRibbonsModel" "waste" "[I" ∈ gG := gG_of (List.mem_of_getElem? (i := 789) rfl) rfl
set_option maxRecDepth 20000 in
theorem mw_765 : Jvm.Cond.fieldLink "PeelRibbonsModel" (48 : Nat) "PeelRibbonsModel" "chosen" "[I" ∈ gG := gG_of (List.mem_of_getElem? (i := 790) rfl) rfl
set_option maxRecDepth 20000 in
theorem mw_766 : Jvm.Cond.fieldLink "PeelRibbonsModel" (51 : Nat) "PeelRibbonsModel" "begins" "[I" ∈ gG := gG_of (List.mem_of_getElem? (i := 791) rfl) rfl
set_option maxRecDepth 20000 in
theorem mw_767 : Jvm.Cond.fieldLink "PeelRibbonsModel" (143 : Nat) "PeelRibbonsModel" "many" "I" ∈ gG := gG_of (List.mem_of_getElem? (i := 792) rfl) rfl
set_option maxRecDepth 20000 in
theorem mw_768 : Jvm.Cond.fieldLink "PeelRibbonsModel" (54 : Nat) "PeelRibbonsModel" "knifeRadii" "[I" ∈ gG := gG_of (List.mem_of_getElem? (i := 793) rfl) rfl
set_option maxRecDepth 20000 in
theorem mw_769 : Jvm.Cond.fieldLink "PeelRibbonsModel" (57 : Nat) "PeelRibbonsModel" "knifeAngles" "[I" ∈ gG := gG_of (List.mem_of_getElem? (i := 794) rfl) rfl
set_option maxRecDepth 20000 in
theorem mw_770 : Jvm.Cond.fieldLink "PeelRibbonsModel" (146 : Nat) "PeelRibbonsModel" "rows" "I" ∈ gG := gG_of (List.mem_of_getElem? (i := 795) rfl) rfl
set_option maxRecDepth 20000 in
theorem mw_844 : Jvm.Cond.methodLink "PeelRibbonsModel" (73 : Nat) ({ cls := "PeelRibbonsModel", name := "isIn", desc := "(III)Z" } : Jvm.MethodName) ∈ gG := gG_of (List.mem_of_getElem? (i := 869) rfl) rfl
set_option maxRecDepth 20000 in
theorem mw_845 : Jvm.Cond.static ({ cls := "PeelRibbonsModel", name := "isIn", desc := "(III)Z" } : Jvm.MethodName) ∈ gG := gG_of (List.mem_of_getElem? (i := 870) rfl) rfl
set_option maxRecDepth 20000 in
theorem mw_851 : Jvm.Cond.methodLink "PeelRibbonsModel" (106 : Nat) ({ cls := "PeelRibbonsModel", name := "know", desc := "()V" } : Jvm.MethodName) ∈ gG := gG_of (List.mem_of_getElem? (i := 876) rfl) rfl
set_option maxRecDepth 20000 in
theorem mw_853 : Jvm.Cond.instanceMethod ({ cls := "PeelRibbonsModel", name := "know", desc := "()V" } : Jvm.MethodName) ∈ gG := gG_of (List.mem_of_getElem? (i := 878) rfl) rfl
set_option maxRecDepth 20000 in
theorem mw_855 : Jvm.Cond.methodLink "PeelRibbonsModel" (96 : Nat) ({ cls := "PeelRibbonsModel", name := "square", desc := "(III)I" } : Jvm.MethodName) ∈ gG := gG_of (List.mem_of_getElem? (i := 880) rfl) rfl
set_option maxRecDepth 20000 in
theorem mw_857 : Jvm.Cond.instanceMethod ({ cls := "PeelRibbonsModel", name := "square", desc := "(III)I" } : Jvm.MethodName) ∈ gG := gG_of (List.mem_of_getElem? (i := 882) rfl) rfl
set_option maxRecDepth 20000 in
theorem mw_859 : Jvm.Cond.methodLink "PeelRibbonsModel" (87 : Nat) ({ cls := "PeelRibbonsModel", name := "less", desc := "(II)I" } : Jvm.MethodName) ∈ gG := gG_of (List.mem_of_getElem? (i := 884) rfl) rfl
set_option maxRecDepth 20000 in
theorem mw_860 : Jvm.Cond.static ({ cls := "PeelRibbonsModel", name := "less", desc := "(II)I" } : Jvm.MethodName) ∈ gG := gG_of (List.mem_of_getElem? (i := 885) rfl) rfl
set_option maxRecDepth 20000 in
theorem mw_862 : Jvm.Cond.methodLink "PeelRibbonsModel" (91 : Nat) ({ cls := "PeelRibbonsModel", name := "off", desc := "(III)I" } : Jvm.MethodName) ∈ gG := gG_of (List.mem_of_getElem? (i := 887) rfl) rfl
set_option maxRecDepth 20000 in
theorem mw_863 : Jvm.Cond.static ({ cls := "PeelRibbonsModel", name := "off", desc := "(III)I" } : Jvm.MethodName) ∈ gG := gG_of (List.mem_of_getElem? (i := 888) rfl) rfl
set_option maxRecDepth 20000 in
theorem mw_865 : Jvm.Cond.methodLink "PeelRibbonsModel" (102 : Nat) ({ cls := "PeelRibbonsModel", name := "roomAt", desc := "(IIII)I" } : Jvm.MethodName) ∈ gG := gG_of (List.mem_of_getElem? (i := 890) rfl) rfl
set_option maxRecDepth 20000 in
theorem mw_867 : Jvm.Cond.instanceMethod ({ cls := "PeelRibbonsModel", name := "roomAt", desc := "(IIII)I" } : Jvm.MethodName) ∈ gG := gG_of (List.mem_of_getElem? (i := 892) rfl) rfl
set_option maxRecDepth 20000 in
theorem mw_869 : Jvm.Cond.constant "PeelRibbonsModel" (95 : Nat) (1000000 : Int32) ∈ gG := gG_of (List.mem_of_getElem? (i := 894) rfl) rfl
set_option maxRecDepth 20000 in
theorem mw_875 : Jvm.Cond.instanceMethod ({ cls := "PeelRibbonsModel", name := "radius", desc := "()I" } : Jvm.MethodName) ∈ gG := gG_of (List.mem_of_getElem? (i := 900) rfl) rfl
set_option maxRecDepth 20000 in
theorem mw_876 : Jvm.Cond.selects "PeelRibbonsModel" ({ cls := "PeelRibbonsModel", name := "radius", desc := "()I" } : Jvm.MethodName) ({ cls := "PeelRibbonsModel", name := "radius", desc := "()I" } : Jvm.MethodName) ∈ gG := gG_of (List.mem_of_getElem? (i := 901) rfl) rfl
set_option maxRecDepth 20000 in
theorem mw_886 : Jvm.Cond.methodLink "PeelRibbonsModel" (109 : Nat) ({ cls := "PeelRibbonsModel", name := "radius", desc := "()I" } : Jvm.MethodName) ∈ gG := gG_of (List.mem_of_getElem? (i := 911) rfl) rfl
set_option maxRecDepth 20000 in
theorem mw_891 : Jvm.Cond.methodLink "PeelRibbonsModel" (121 : Nat) ({ cls := "PeelRibbonsModel", name := "beforeTurn", desc := "(I)I" } : Jvm.MethodName) ∈ gG := gG_of (List.mem_of_getElem? (i := 916) rfl) rfl
set_option maxRecDepth 20000 in
theorem mw_893 : Jvm.Cond.instanceMethod ({ cls := "PeelRibbonsModel", name := "beforeTurn", desc := "(I)I" } : Jvm.MethodName) ∈ gG := gG_of (List.mem_of_getElem? (i := 918) rfl) rfl
set_option maxRecDepth 20000 in
theorem mw_903 : Jvm.Cond.methodLink "PeelRibbonsModel" (128 : Nat) ({ cls := "PeelRibbonsModel", name := "placeOf", desc := "(I)I" } : Jvm.MethodName) ∈ gG := gG_of (List.mem_of_getElem? (i := 928) rfl) rfl
set_option maxRecDepth 20000 in
theorem mw_905 : Jvm.Cond.instanceMethod ({ cls := "PeelRibbonsModel", name := "placeOf", desc := "(I)I" } : Jvm.MethodName) ∈ gG := gG_of (List.mem_of_getElem? (i := 930) rfl) rfl
set_option maxRecDepth 20000 in
theorem mw_919 : Jvm.Cond.methodLink "PeelRibbonsModel" (137 : Nat) ({ cls := "PeelRibbonsModel", name := "fits", desc := "(II)Z" } : Jvm.MethodName) ∈ gG := gG_of (List.mem_of_getElem? (i := 944) rfl) rfl
set_option maxRecDepth 20000 in
theorem mw_921 : Jvm.Cond.instanceMethod ({ cls := "PeelRibbonsModel", name := "fits", desc := "(II)Z" } : Jvm.MethodName) ∈ gG := gG_of (List.mem_of_getElem? (i := 946) rfl) rfl
set_option maxRecDepth 20000 in
theorem mw_923 : Jvm.Cond.methodLink "PeelRibbonsModel" (141 : Nat) ({ cls := "PeelRibbonsModel", name := "side", desc := "(II)I" } : Jvm.MethodName) ∈ gG := gG_of (List.mem_of_getElem? (i := 948) rfl) rfl
set_option maxRecDepth 20000 in
theorem mw_925 : Jvm.Cond.instanceMethod ({ cls := "PeelRibbonsModel", name := "side", desc := "(II)I" } : Jvm.MethodName) ∈ gG := gG_of (List.mem_of_getElem? (i := 950) rfl) rfl
theorem mc_869 : Cond.constant "PeelRibbonsModel" 95 (iI 1000000) ∈ gG := by
  rw [show iI 1000000 = (1000000 : Int32) from by decide]
  exact mw_869
set_option maxRecDepth 20000 in
theorem ps_18 : Cond.selects "PeelRibbonsModel" ⟨"PeelRibbonsModel", "know", "()V"⟩ ⟨"PeelRibbonsModel", "know", "()V"⟩ ∈ gG := gG_of (List.mem_of_getElem? (i := 18) rfl) rfl
set_option maxRecDepth 20000 in
theorem ps_19 : Cond.selects "PeelRibbonsModel" ⟨"PeelRibbonsModel", "square", "(III)I"⟩ ⟨"PeelRibbonsModel", "square", "(III)I"⟩ ∈ gG := gG_of (List.mem_of_getElem? (i := 19) rfl) rfl
set_option maxRecDepth 20000 in
theorem ps_20 : Cond.selects "PeelRibbonsModel" ⟨"PeelRibbonsModel", "roomAt", "(IIII)I"⟩ ⟨"PeelRibbonsModel", "roomAt", "(IIII)I"⟩ ∈ gG := gG_of (List.mem_of_getElem? (i := 20) rfl) rfl
set_option maxRecDepth 20000 in
theorem ps_21 : Cond.selects "PeelRibbonsModel" ⟨"PeelRibbonsModel", "beforeTurn", "(I)I"⟩ ⟨"PeelRibbonsModel", "beforeTurn", "(I)I"⟩ ∈ gG := gG_of (List.mem_of_getElem? (i := 21) rfl) rfl
set_option maxRecDepth 20000 in
theorem ps_22 : Cond.selects "PeelRibbonsModel" ⟨"PeelRibbonsModel", "placeOf", "(I)I"⟩ ⟨"PeelRibbonsModel", "placeOf", "(I)I"⟩ ∈ gG := gG_of (List.mem_of_getElem? (i := 22) rfl) rfl
set_option maxRecDepth 20000 in
theorem ps_23 : Cond.selects "PeelRibbonsModel" ⟨"PeelRibbonsModel", "fits", "(II)Z"⟩ ⟨"PeelRibbonsModel", "fits", "(II)Z"⟩ ∈ gG := gG_of (List.mem_of_getElem? (i := 23) rfl) rfl
set_option maxRecDepth 20000 in
theorem ps_24 : Cond.selects "PeelRibbonsModel" ⟨"PeelRibbonsModel", "side", "(II)I"⟩ ⟨"PeelRibbonsModel", "side", "(II)I"⟩ ∈ gG := gG_of (List.mem_of_getElem? (i := 24) rfl) rfl
def wM (ad : Nat → Nat) (kc : Nat → ClassId) (nn : Nat → Nat) (σ : kM) : va_W := [(ad 0, .inr (8, [.int (iI (σ 0 0)), .int (iI (σ 0 1)), .int (iI (σ 0 2)), .int (iI (σ 0 3)), .ref (ad 1), .ref (ad 2), .int (iI (σ 0 6)), .int (iI (σ 0 7)), .ref (ad 3), .int (iI (σ 0 9)), .int (iI (σ 0 10)), .int (iI (σ 0 11)), .int (iI (σ 0 12)), .ref (ad 4), .ref (ad 5), .ref (ad 6), .int (iI (σ 0 16)), .ref (ad 7), .ref (ad 8), .ref (ad 9), .int (iI (σ 0 20)), .int (iI (σ 0 21)), .int (iI (σ 0 22)), .ref (ad 10), .ref (ad 11), .ref (ad 12), .ref (ad 13), .ref (ad 14), .int (iI (σ 0 28)), .ref (ad 15), .ref (ad 16), .int (iI (σ 0 31))])), (ad 1, .inl (kc 1, 400, .inl (fun j => iI (σ 1 j)))), (ad 2, .inl (kc 2, 3844, .inl (fun j => iI (σ 2 j)))), (ad 3, .inl (kc 3, 4, .inl (fun j => iI (σ 3 j)))), (ad 4, .inl (kc 4, 16, .inl (fun j => iI (σ 4 j)))), (ad 5, .inl (kc 5, 16, .inl (fun j => iI (σ 5 j)))), (ad 6, .inl (kc 6, 16, .inl (fun j => iI (σ 6 j)))), (ad 7, .inl (kc 7, 6, .inl (fun j => iI (σ 7 j)))), (ad 8, .inl (kc 8, 6, .inl (fun j => iI (σ 8 j)))), (ad 9, .inl (kc 9, 6, .inl (fun j => iI (σ 9 j)))), (ad 10, .inl (kc 10, 2001, .inl (fun j => iI (σ 10 j)))), (ad 11, .inl (kc 11, 2001, .inr (.inl (fun j => lI (σ 11 j))))), (ad 12, .inl (kc 12, 2001, .inl (fun j => iI (σ 12 j)))), (ad 13, .inl (kc 13, 2000, .inl (fun j => iI (σ 13 j)))), (ad 14, .inl (kc 14, 2000, .inl (fun j => iI (σ 14 j)))), (ad 15, .inl (kc 15, 8, .inl (fun j => iI (σ 15 j)))), (ad 16, .inl (kc 16, 8, .inl (fun j => iI (σ 16 j))))]
def tyM (kc : Nat → ClassId) : List (ClassId × FieldType) := [(kc 1, .boolean), (kc 2, .int), (kc 3, .int), (kc 4, .int), (kc 5, .int), (kc 6, .int), (kc 7, .int), (kc 8, .int), (kc 9, .int), (kc 10, .int), (kc 11, .long), (kc 12, .int), (kc 13, .int), (kc 14, .int), (kc 15, .int), (kc 16, .int)]
theorem wM_p0_0 (ad : Nat → Nat) (kc : Nat → ClassId) (nn : Nat → Nat) (σ : kM) (z : Int) : (wM ad kc nn σ).set 0 (ad 0, .inr (8, ([.int (iI (σ 0 0)), .int (iI (σ 0 1)), .int (iI (σ 0 2)), .int (iI (σ 0 3)), .ref (ad 1), .ref (ad 2), .int (iI (σ 0 6)), .int (iI (σ 0 7)), .ref (ad 3), .int (iI (σ 0 9)), .int (iI (σ 0 10)), .int (iI (σ 0 11)), .int (iI (σ 0 12)), .ref (ad 4), .ref (ad 5), .ref (ad 6), .int (iI (σ 0 16)), .ref (ad 7), .ref (ad 8), .ref (ad 9), .int (iI (σ 0 20)), .int (iI (σ 0 21)), .int (iI (σ 0 22)), .ref (ad 10), .ref (ad 11), .ref (ad 12), .ref (ad 13), .ref (ad 14), .int (iI (σ 0 28)), .ref (ad 15), .ref (ad 16), .int (iI (σ 0 31))] : List Value).set 0 (.int (iI z)))) = wM ad kc nn (va_up σ 0 (va_up (σ 0) 0 z)) := rfl
theorem wM_p0_1 (ad : Nat → Nat) (kc : Nat → ClassId) (nn : Nat → Nat) (σ : kM) (z : Int) : (wM ad kc nn σ).set 0 (ad 0, .inr (8, ([.int (iI (σ 0 0)), .int (iI (σ 0 1)), .int (iI (σ 0 2)), .int (iI (σ 0 3)), .ref (ad 1), .ref (ad 2), .int (iI (σ 0 6)), .int (iI (σ 0 7)), .ref (ad 3), .int (iI (σ 0 9)), .int (iI (σ 0 10)), .int (iI (σ 0 11)), .int (iI (σ 0 12)), .ref (ad 4), .ref (ad 5), .ref (ad 6), .int (iI (σ 0 16)), .ref (ad 7), .ref (ad 8), .ref (ad 9), .int (iI (σ 0 20)), .int (iI (σ 0 21)), .int (iI (σ 0 22)), .ref (ad 10), .ref (ad 11), .ref (ad 12), .ref (ad 13), .ref (ad 14), .int (iI (σ 0 28)), .ref (ad 15), .ref (ad 16), .int (iI (σ 0 31))] : List Value).set 1 (.int (iI z)))) = wM ad kc nn (va_up σ 0 (va_up (σ 0) 1 z)) := rfl
theorem wM_p0_2 (ad : Nat → Nat) (kc : Nat → ClassId) (nn : Nat → Nat) (σ : kM) (z : Int) : (wM ad kc nn σ).set 0 (ad 0, .inr (8, ([.int (iI (σ 0 0)), .int (iI (σ 0 1)), .int (iI (σ 0 2)), .int (iI (σ 0 3)), .ref (ad 1), .ref (ad 2), .int (iI (σ 0 6)), .int (iI (σ 0 7)), .ref (ad 3), .int (iI (σ 0 9)), .int (iI (σ 0 10)), .int (iI (σ 0 11)), .int (iI (σ 0 12)), .ref (ad 4), .ref (ad 5), .ref (ad 6), .int (iI (σ 0 16)), .ref (ad 7), .ref (ad 8), .ref (ad 9), .int (iI (σ 0 20)), .int (iI (σ 0 21)), .int (iI (σ 0 22)), .ref (ad 10), .ref (ad 11), .ref (ad 12), .ref (ad 13), .ref (ad 14), .int (iI (σ 0 28)), .ref (ad 15), .ref (ad 16), .int (iI (σ 0 31))] : List Value).set 2 (.int (iI z)))) = wM ad kc nn (va_up σ 0 (va_up (σ 0) 2 z)) := rfl
theorem wM_p0_3 (ad : Nat → Nat) (kc : Nat → ClassId) (nn : Nat → Nat) (σ : kM) (z : Int) : (wM ad kc nn σ).set 0 (ad 0, .inr (8, ([.int (iI (σ 0 0)), .int (iI (σ 0 1)), .int (iI (σ 0 2)), .int (iI (σ 0 3)), .ref (ad 1), .ref (ad 2), .int (iI (σ 0 6)), .int (iI (σ 0 7)), .ref (ad 3), .int (iI (σ 0 9)), .int (iI (σ 0 10)), .int (iI (σ 0 11)), .int (iI (σ 0 12)), .ref (ad 4), .ref (ad 5), .ref (ad 6), .int (iI (σ 0 16)), .ref (ad 7), .ref (ad 8), .ref (ad 9), .int (iI (σ 0 20)), .int (iI (σ 0 21)), .int (iI (σ 0 22)), .ref (ad 10), .ref (ad 11), .ref (ad 12), .ref (ad 13), .ref (ad 14), .int (iI (σ 0 28)), .ref (ad 15), .ref (ad 16), .int (iI (σ 0 31))] : List Value).set 3 (.int (iI z)))) = wM ad kc nn (va_up σ 0 (va_up (σ 0) 3 z)) := rfl
theorem wM_p0_6 (ad : Nat → Nat) (kc : Nat → ClassId) (nn : Nat → Nat) (σ : kM) (z : Int) : (wM ad kc nn σ).set 0 (ad 0, .inr (8, ([.int (iI (σ 0 0)), .int (iI (σ 0 1)), .int (iI (σ 0 2)), .int (iI (σ 0 3)), .ref (ad 1), .ref (ad 2), .int (iI (σ 0 6)), .int (iI (σ 0 7)), .ref (ad 3), .int (iI (σ 0 9)), .int (iI (σ 0 10)), .int (iI (σ 0 11)), .int (iI (σ 0 12)), .ref (ad 4), .ref (ad 5), .ref (ad 6), .int (iI (σ 0 16)), .ref (ad 7), .ref (ad 8), .ref (ad 9), .int (iI (σ 0 20)), .int (iI (σ 0 21)), .int (iI (σ 0 22)), .ref (ad 10), .ref (ad 11), .ref (ad 12), .ref (ad 13), .ref (ad 14), .int (iI (σ 0 28)), .ref (ad 15), .ref (ad 16), .int (iI (σ 0 31))] : List Value).set 6 (.int (iI z)))) = wM ad kc nn (va_up σ 0 (va_up (σ 0) 6 z)) := rfl
theorem wM_p0_7 (ad : Nat → Nat) (kc : Nat → ClassId) (nn : Nat → Nat) (σ : kM) (z : Int) : (wM ad kc nn σ).set 0 (ad 0, .inr (8, ([.int (iI (σ 0 0)), .int (iI (σ 0 1)), .int (iI (σ 0 2)), .int (iI (σ 0 3)), .ref (ad 1), .ref (ad 2), .int (iI (σ 0 6)), .int (iI (σ 0 7)), .ref (ad 3), .int (iI (σ 0 9)), .int (iI (σ 0 10)), .int (iI (σ 0 11)), .int (iI (σ 0 12)), .ref (ad 4), .ref (ad 5), .ref (ad 6), .int (iI (σ 0 16)), .ref (ad 7), .ref (ad 8), .ref (ad 9), .int (iI (σ 0 20)), .int (iI (σ 0 21)), .int (iI (σ 0 22)), .ref (ad 10), .ref (ad 11), .ref (ad 12), .ref (ad 13), .ref (ad 14), .int (iI (σ 0 28)), .ref (ad 15), .ref (ad 16), .int (iI (σ 0 31))] : List Value).set 7 (.int (iI z)))) = wM ad kc nn (va_up σ 0 (va_up (σ 0) 7 z)) := rfl
theorem wM_p0_9 (ad : Nat → Nat) (kc : Nat → ClassId) (nn : Nat → Nat) (σ : kM) (z : Int) : (wM ad kc nn σ).set 0 (ad 0, .inr (8, ([.int (iI (σ 0 0)), .int (iI (σ 0 1)), .int (iI (σ 0 2)), .int (iI (σ 0 3)), .ref (ad 1), .ref (ad 2), .int (iI (σ 0 6)), .int (iI (σ 0 7)), .ref (ad 3), .int (iI (σ 0 9)), .int (iI (σ 0 10)), .int (iI (σ 0 11)), .int (iI (σ 0 12)), .ref (ad 4), .ref (ad 5), .ref (ad 6), .int (iI (σ 0 16)), .ref (ad 7), .ref (ad 8), .ref (ad 9), .int (iI (σ 0 20)), .int (iI (σ 0 21)), .int (iI (σ 0 22)), .ref (ad 10), .ref (ad 11), .ref (ad 12), .ref (ad 13), .ref (ad 14), .int (iI (σ 0 28)), .ref (ad 15), .ref (ad 16), .int (iI (σ 0 31))] : List Value).set 9 (.int (iI z)))) = wM ad kc nn (va_up σ 0 (va_up (σ 0) 9 z)) := rfl
theorem wM_p0_10 (ad : Nat → Nat) (kc : Nat → ClassId) (nn : Nat → Nat) (σ : kM) (z : Int) : (wM ad kc nn σ).set 0 (ad 0, .inr (8, ([.int (iI (σ 0 0)), .int (iI (σ 0 1)), .int (iI (σ 0 2)), .int (iI (σ 0 3)), .ref (ad 1), .ref (ad 2), .int (iI (σ 0 6)), .int (iI (σ 0 7)), .ref (ad 3), .int (iI (σ 0 9)), .int (iI (σ 0 10)), .int (iI (σ 0 11)), .int (iI (σ 0 12)), .ref (ad 4), .ref (ad 5), .ref (ad 6), .int (iI (σ 0 16)), .ref (ad 7), .ref (ad 8), .ref (ad 9), .int (iI (σ 0 20)), .int (iI (σ 0 21)), .int (iI (σ 0 22)), .ref (ad 10), .ref (ad 11), .ref (ad 12), .ref (ad 13), .ref (ad 14), .int (iI (σ 0 28)), .ref (ad 15), .ref (ad 16), .int (iI (σ 0 31))] : List Value).set 10 (.int (iI z)))) = wM ad kc nn (va_up σ 0 (va_up (σ 0) 10 z)) := rfl
theorem wM_p0_11 (ad : Nat → Nat) (kc : Nat → ClassId) (nn : Nat → Nat) (σ : kM) (z : Int) : (wM ad kc nn σ).set 0 (ad 0, .inr (8, ([.int (iI (σ 0 0)), .int (iI (σ 0 1)), .int (iI (σ 0 2)), .int (iI (σ 0 3)), .ref (ad 1), .ref (ad 2), .int (iI (σ 0 6)), .int (iI (σ 0 7)), .ref (ad 3), .int (iI (σ 0 9)), .int (iI (σ 0 10)), .int (iI (σ 0 11)), .int (iI (σ 0 12)), .ref (ad 4), .ref (ad 5), .ref (ad 6), .int (iI (σ 0 16)), .ref (ad 7), .ref (ad 8), .ref (ad 9), .int (iI (σ 0 20)), .int (iI (σ 0 21)), .int (iI (σ 0 22)), .ref (ad 10), .ref (ad 11), .ref (ad 12), .ref (ad 13), .ref (ad 14), .int (iI (σ 0 28)), .ref (ad 15), .ref (ad 16), .int (iI (σ 0 31))] : List Value).set 11 (.int (iI z)))) = wM ad kc nn (va_up σ 0 (va_up (σ 0) 11 z)) := rfl
theorem wM_p0_12 (ad : Nat → Nat) (kc : Nat → ClassId) (nn : Nat → Nat) (σ : kM) (z : Int) : (wM ad kc nn σ).set 0 (ad 0, .inr (8, ([.int (iI (σ 0 0)), .int (iI (σ 0 1)), .int (iI (σ 0 2)), .int (iI (σ 0 3)), .ref (ad 1), .ref (ad 2), .int (iI (σ 0 6)), .int (iI (σ 0 7)), .ref (ad 3), .int (iI (σ 0 9)), .int (iI (σ 0 10)), .int (iI (σ 0 11)), .int (iI (σ 0 12)), .ref (ad 4), .ref (ad 5), .ref (ad 6), .int (iI (σ 0 16)), .ref (ad 7), .ref (ad 8), .ref (ad 9), .int (iI (σ 0 20)), .int (iI (σ 0 21)), .int (iI (σ 0 22)), .ref (ad 10), .ref (ad 11), .ref (ad 12), .ref (ad 13), .ref (ad 14), .int (iI (σ 0 28)), .ref (ad 15), .ref (ad 16), .int (iI (σ 0 31))] : List Value).set 12 (.int (iI z)))) = wM ad kc nn (va_up σ 0 (va_up (σ 0) 12 z)) := rfl
theorem wM_p0_16 (ad : Nat → Nat) (kc : Nat → ClassId) (nn : Nat → Nat) (σ : kM) (z : Int) : (wM ad kc nn σ).set 0 (ad 0, .inr (8, ([.int (iI (σ 0 0)), .int (iI (σ 0 1)), .int (iI (σ 0 2)), .int (iI (σ 0 3)), .ref (ad 1), .ref (ad 2), .int (iI (σ 0 6)), .int (iI (σ 0 7)), .ref (ad 3), .int (iI (σ 0 9)), .int (iI (σ 0 10)), .int (iI (σ 0 11)), .int (iI (σ 0 12)), .ref (ad 4), .ref (ad 5), .ref (ad 6), .int (iI (σ 0 16)), .ref (ad 7), .ref (ad 8), .ref (ad 9), .int (iI (σ 0 20)), .int (iI (σ 0 21)), .int (iI (σ 0 22)), .ref (ad 10), .ref (ad 11), .ref (ad 12), .ref (ad 13), .ref (ad 14), .int (iI (σ 0 28)), .ref (ad 15), .ref (ad 16), .int (iI (σ 0 31))] : List Value).set 16 (.int (iI z)))) = wM ad kc nn (va_up σ 0 (va_up (σ 0) 16 z)) := rfl
theorem wM_p0_20 (ad : Nat → Nat) (kc : Nat → ClassId) (nn : Nat → Nat) (σ : kM) (z : Int) : (wM ad kc nn σ).set 0 (ad 0, .inr (8, ([.int (iI (σ 0 0)), .int (iI (σ 0 1)), .int (iI (σ 0 2)), .int (iI (σ 0 3)), .ref (ad 1), .ref (ad 2), .int (iI (σ 0 6)), .int (iI (σ 0 7)), .ref (ad 3), .int (iI (σ 0 9)), .int (iI (σ 0 10)), .int (iI (σ 0 11)), .int (iI (σ 0 12)), .ref (ad 4), .ref (ad 5), .ref (ad 6), .int (iI (σ 0 16)), .ref (ad 7), .ref (ad 8), .ref (ad 9), .int (iI (σ 0 20)), .int (iI (σ 0 21)), .int (iI (σ 0 22)), .ref (ad 10), .ref (ad 11), .ref (ad 12), .ref (ad 13), .ref (ad 14), .int (iI (σ 0 28)), .ref (ad 15), .ref (ad 16), .int (iI (σ 0 31))] : List Value).set 20 (.int (iI z)))) = wM ad kc nn (va_up σ 0 (va_up (σ 0) 20 z)) := rfl
theorem wM_p0_21 (ad : Nat → Nat) (kc : Nat → ClassId) (nn : Nat → Nat) (σ : kM) (z : Int) : (wM ad kc nn σ).set 0 (ad 0, .inr (8, ([.int (iI (σ 0 0)), .int (iI (σ 0 1)), .int (iI (σ 0 2)), .int (iI (σ 0 3)), .ref (ad 1), .ref (ad 2), .int (iI (σ 0 6)), .int (iI (σ 0 7)), .ref (ad 3), .int (iI (σ 0 9)), .int (iI (σ 0 10)), .int (iI (σ 0 11)), .int (iI (σ 0 12)), .ref (ad 4), .ref (ad 5), .ref (ad 6), .int (iI (σ 0 16)), .ref (ad 7), .ref (ad 8), .ref (ad 9), .int (iI (σ 0 20)), .int (iI (σ 0 21)), .int (iI (σ 0 22)), .ref (ad 10), .ref (ad 11), .ref (ad 12), .ref (ad 13), .ref (ad 14), .int (iI (σ 0 28)), .ref (ad 15), .ref (ad 16), .int (iI (σ 0 31))] : List Value).set 21 (.int (iI z)))) = wM ad kc nn (va_up σ 0 (va_up (σ 0) 21 z)) := rfl
theorem wM_p0_22 (ad : Nat → Nat) (kc : Nat → ClassId) (nn : Nat → Nat) (σ : kM) (z : Int) : (wM ad kc nn σ).set 0 (ad 0, .inr (8, ([.int (iI (σ 0 0)), .int (iI (σ 0 1)), .int (iI (σ 0 2)), .int (iI (σ 0 3)), .ref (ad 1), .ref (ad 2), .int (iI (σ 0 6)), .int (iI (σ 0 7)), .ref (ad 3), .int (iI (σ 0 9)), .int (iI (σ 0 10)), .int (iI (σ 0 11)), .int (iI (σ 0 12)), .ref (ad 4), .ref (ad 5), .ref (ad 6), .int (iI (σ 0 16)), .ref (ad 7), .ref (ad 8), .ref (ad 9), .int (iI (σ 0 20)), .int (iI (σ 0 21)), .int (iI (σ 0 22)), .ref (ad 10), .ref (ad 11), .ref (ad 12), .ref (ad 13), .ref (ad 14), .int (iI (σ 0 28)), .ref (ad 15), .ref (ad 16), .int (iI (σ 0 31))] : List Value).set 22 (.int (iI z)))) = wM ad kc nn (va_up σ 0 (va_up (σ 0) 22 z)) := rfl
theorem wM_p0_28 (ad : Nat → Nat) (kc : Nat → ClassId) (nn : Nat → Nat) (σ : kM) (z : Int) : (wM ad kc nn σ).set 0 (ad 0, .inr (8, ([.int (iI (σ 0 0)), .int (iI (σ 0 1)), .int (iI (σ 0 2)), .int (iI (σ 0 3)), .ref (ad 1), .ref (ad 2), .int (iI (σ 0 6)), .int (iI (σ 0 7)), .ref (ad 3), .int (iI (σ 0 9)), .int (iI (σ 0 10)), .int (iI (σ 0 11)), .int (iI (σ 0 12)), .ref (ad 4), .ref (ad 5), .ref (ad 6), .int (iI (σ 0 16)), .ref (ad 7), .ref (ad 8), .ref (ad 9), .int (iI (σ 0 20)), .int (iI (σ 0 21)), .int (iI (σ 0 22)), .ref (ad 10), .ref (ad 11), .ref (ad 12), .ref (ad 13), .ref (ad 14), .int (iI (σ 0 28)), .ref (ad 15), .ref (ad 16), .int (iI (σ 0 31))] : List Value).set 28 (.int (iI z)))) = wM ad kc nn (va_up σ 0 (va_up (σ 0) 28 z)) := rfl
theorem wM_p0_31 (ad : Nat → Nat) (kc : Nat → ClassId) (nn : Nat → Nat) (σ : kM) (z : Int) : (wM ad kc nn σ).set 0 (ad 0, .inr (8, ([.int (iI (σ 0 0)), .int (iI (σ 0 1)), .int (iI (σ 0 2)), .int (iI (σ 0 3)), .ref (ad 1), .ref (ad 2), .int (iI (σ 0 6)), .int (iI (σ 0 7)), .ref (ad 3), .int (iI (σ 0 9)), .int (iI (σ 0 10)), .int (iI (σ 0 11)), .int (iI (σ 0 12)), .ref (ad 4), .ref (ad 5), .ref (ad 6), .int (iI (σ 0 16)), .ref (ad 7), .ref (ad 8), .ref (ad 9), .int (iI (σ 0 20)), .int (iI (σ 0 21)), .int (iI (σ 0 22)), .ref (ad 10), .ref (ad 11), .ref (ad 12), .ref (ad 13), .ref (ad 14), .int (iI (σ 0 28)), .ref (ad 15), .ref (ad 16), .int (iI (σ 0 31))] : List Value).set 31 (.int (iI z)))) = wM ad kc nn (va_up σ 0 (va_up (σ 0) 31 z)) := rfl
theorem wM_a1 (ad : Nat → Nat) (kc : Nat → ClassId) (nn : Nat → Nat) (σ : kM) (i : Nat) (z : Int) : (wM ad kc nn σ).set 1 (ad 1, .inl (kc 1, 400, .inl (fun j => iI (va_up (σ 1) i z j)))) = wM ad kc nn (va_up σ 1 (va_up (σ 1) i z)) := rfl
theorem wM_a2 (ad : Nat → Nat) (kc : Nat → ClassId) (nn : Nat → Nat) (σ : kM) (i : Nat) (z : Int) : (wM ad kc nn σ).set 2 (ad 2, .inl (kc 2, 3844, .inl (fun j => iI (va_up (σ 2) i z j)))) = wM ad kc nn (va_up σ 2 (va_up (σ 2) i z)) := rfl
theorem wM_a3 (ad : Nat → Nat) (kc : Nat → ClassId) (nn : Nat → Nat) (σ : kM) (i : Nat) (z : Int) : (wM ad kc nn σ).set 3 (ad 3, .inl (kc 3, 4, .inl (fun j => iI (va_up (σ 3) i z j)))) = wM ad kc nn (va_up σ 3 (va_up (σ 3) i z)) := rfl
theorem wM_a4 (ad : Nat → Nat) (kc : Nat → ClassId) (nn : Nat → Nat) (σ : kM) (i : Nat) (z : Int) : (wM ad kc nn σ).set 4 (ad 4, .inl (kc 4, 16, .inl (fun j => iI (va_up (σ 4) i z j)))) = wM ad kc nn (va_up σ 4 (va_up (σ 4) i z)) := rfl
theorem wM_a5 (ad : Nat → Nat) (kc : Nat → ClassId) (nn : Nat → Nat) (σ : kM) (i : Nat) (z : Int) : (wM ad kc nn σ).set 5 (ad 5, .inl (kc 5, 16, .inl (fun j => iI (va_up (σ 5) i z j)))) = wM ad kc nn (va_up σ 5 (va_up (σ 5) i z)) := rfl
theorem wM_a6 (ad : Nat → Nat) (kc : Nat → ClassId) (nn : Nat → Nat) (σ : kM) (i : Nat) (z : Int) : (wM ad kc nn σ).set 6 (ad 6, .inl (kc 6, 16, .inl (fun j => iI (va_up (σ 6) i z j)))) = wM ad kc nn (va_up σ 6 (va_up (σ 6) i z)) := rfl
theorem wM_a7 (ad : Nat → Nat) (kc : Nat → ClassId) (nn : Nat → Nat) (σ : kM) (i : Nat) (z : Int) : (wM ad kc nn σ).set 7 (ad 7, .inl (kc 7, 6, .inl (fun j => iI (va_up (σ 7) i z j)))) = wM ad kc nn (va_up σ 7 (va_up (σ 7) i z)) := rfl
theorem wM_a8 (ad : Nat → Nat) (kc : Nat → ClassId) (nn : Nat → Nat) (σ : kM) (i : Nat) (z : Int) : (wM ad kc nn σ).set 8 (ad 8, .inl (kc 8, 6, .inl (fun j => iI (va_up (σ 8) i z j)))) = wM ad kc nn (va_up σ 8 (va_up (σ 8) i z)) := rfl
theorem wM_a9 (ad : Nat → Nat) (kc : Nat → ClassId) (nn : Nat → Nat) (σ : kM) (i : Nat) (z : Int) : (wM ad kc nn σ).set 9 (ad 9, .inl (kc 9, 6, .inl (fun j => iI (va_up (σ 9) i z j)))) = wM ad kc nn (va_up σ 9 (va_up (σ 9) i z)) := rfl
theorem wM_a10 (ad : Nat → Nat) (kc : Nat → ClassId) (nn : Nat → Nat) (σ : kM) (i : Nat) (z : Int) : (wM ad kc nn σ).set 10 (ad 10, .inl (kc 10, 2001, .inl (fun j => iI (va_up (σ 10) i z j)))) = wM ad kc nn (va_up σ 10 (va_up (σ 10) i z)) := rfl
theorem wM_a11 (ad : Nat → Nat) (kc : Nat → ClassId) (nn : Nat → Nat) (σ : kM) (i : Nat) (z : Int) : (wM ad kc nn σ).set 11 (ad 11, .inl (kc 11, 2001, .inr (.inl (fun j => lI (va_up (σ 11) i z j))))) = wM ad kc nn (va_up σ 11 (va_up (σ 11) i z)) := rfl
theorem wM_a12 (ad : Nat → Nat) (kc : Nat → ClassId) (nn : Nat → Nat) (σ : kM) (i : Nat) (z : Int) : (wM ad kc nn σ).set 12 (ad 12, .inl (kc 12, 2001, .inl (fun j => iI (va_up (σ 12) i z j)))) = wM ad kc nn (va_up σ 12 (va_up (σ 12) i z)) := rfl
theorem wM_a13 (ad : Nat → Nat) (kc : Nat → ClassId) (nn : Nat → Nat) (σ : kM) (i : Nat) (z : Int) : (wM ad kc nn σ).set 13 (ad 13, .inl (kc 13, 2000, .inl (fun j => iI (va_up (σ 13) i z j)))) = wM ad kc nn (va_up σ 13 (va_up (σ 13) i z)) := rfl
theorem wM_a14 (ad : Nat → Nat) (kc : Nat → ClassId) (nn : Nat → Nat) (σ : kM) (i : Nat) (z : Int) : (wM ad kc nn σ).set 14 (ad 14, .inl (kc 14, 2000, .inl (fun j => iI (va_up (σ 14) i z j)))) = wM ad kc nn (va_up σ 14 (va_up (σ 14) i z)) := rfl
theorem wM_a15 (ad : Nat → Nat) (kc : Nat → ClassId) (nn : Nat → Nat) (σ : kM) (i : Nat) (z : Int) : (wM ad kc nn σ).set 15 (ad 15, .inl (kc 15, 8, .inl (fun j => iI (va_up (σ 15) i z j)))) = wM ad kc nn (va_up σ 15 (va_up (σ 15) i z)) := rfl
theorem wM_a16 (ad : Nat → Nat) (kc : Nat → ClassId) (nn : Nat → Nat) (σ : kM) (i : Nat) (z : Int) : (wM ad kc nn σ).set 16 (ad 16, .inl (kc 16, 8, .inl (fun j => iI (va_up (σ 16) i z j)))) = wM ad kc nn (va_up σ 16 (va_up (σ 16) i z)) := rfl
