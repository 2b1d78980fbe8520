theorem gV {cx cy : Cond} {own C : String} {idx : Nat} {y : MethodName} (h1 : Cond.methodLink own idx y ∈ gG) (h2 : Cond.instanceMethod y ∈ gG) (h3 : Cond.selects C y y ∈ gG) (h4 : Cond.initialized C ∈ gG) (hc : cy ∈ gG) : GoodIn (cx :: gG) (wsV own idx C y (cy :: gG)) := by
  have key : ∀ w ∈ wsV own idx C y (cy :: gG), w ∈ gG := by
    intro w hw
    unfold wsV at hw
    simp only [List.cons_append, List.nil_append, List.mem_cons] at hw
    rcases hw with rfl | rfl | rfl | rfl | rfl | hw
    · exact h1
    · exact h2
    · exact h3
    · exact h4
    · exact hc
    · exact hw
  exact fun w hw => ⟨gG_in (key w hw), good_of_word (List.mem_filter.mp (key w hw)).2⟩
theorem gS {cx cy : Cond} {own : String} {idx : Nat} {y : MethodName} (h1 : Cond.methodLink own idx y ∈ gG) (h2 : Cond.static y ∈ gG) (h4 : Cond.initialized own ∈ gG) (hc : cy ∈ gG) : GoodIn (cx :: gG) (wsS own idx y (cy :: gG)) := by
  have key : ∀ w ∈ wsS own idx y (cy :: gG), w ∈ gG := by
    intro w hw
    unfold wsS at hw
    simp only [List.cons_append, List.nil_append, List.mem_cons] at hw
    rcases hw with rfl | rfl | rfl | rfl | hw
    · exact h1
    · exact h2
    · exact h4
    · exact hc
    · exact hw
  exact fun w hw => ⟨gG_in (key w hw), good_of_word (List.mem_filter.mp (key w hw)).2⟩
set_option maxRecDepth 20000 in
theorem mw_1 : Jvm.Cond.initialized "PeelRibbons" ∈ gG := gG_of (List.mem_of_getElem? (i := 26) rfl) rfl
set_option maxRecDepth 20000 in
theorem mw_2 : Jvm.Cond.initialized "PeelRibbons$Slices" ∈ gG := gG_of (List.mem_of_getElem? (i := 27) rfl) rfl
set_option maxRecDepth 20000 in
theorem mw_3 : Jvm.Cond.initialized "java/lang/Math" ∈ gG := gG_of (List.mem_of_getElem? (i := 28) rfl) rfl
set_option maxRecDepth 20000 in
theorem mw_4 : Jvm.Cond.initialized "PeelRibbons$Axes" ∈ gG := gG_of (List.mem_of_getElem? (i := 29) rfl) rfl
set_option maxRecDepth 20000 in
theorem mw_5 : Jvm.Cond.initialized "PeelRibbons$Ribbon" ∈ gG := gG_of (List.mem_of_getElem? (i := 30) rfl) rfl
set_option maxRecDepth 20000 in
theorem mw_6 : Jvm.Cond.initialized "PeelRibbons$Faults" ∈ gG := gG_of (List.mem_of_getElem? (i := 31) rfl) rfl
set_option maxRecDepth 20000 in
theorem mw_7 : Jvm.Cond.initialized "PeelRibbons$Leaves" ∈ gG := gG_of (List.mem_of_getElem? (i := 32) rfl) rfl
set_option maxRecDepth 20000 in
theorem mw_8 : Jvm.Cond.initialized "PeelRibbons$Clipping" ∈ gG := gG_of (List.mem_of_getElem? (i := 33) rfl) rfl
set_option maxRecDepth 20000 in
theorem mw_9 : Jvm.Cond.initialized "PeelRibbons$KnifeRows" ∈ gG := gG_of (List.mem_of_getElem? (i := 34) rfl) rfl
set_option maxRecDepth 20000 in
theorem mw_10 : Jvm.Cond.initialized "PeelRibbonsModel" ∈ gG := gG_of (List.mem_of_getElem? (i := 35) rfl) rfl
set_option maxRecDepth 20000 in
theorem mw_30 : Jvm.Cond.methodLink "PeelRibbons" (229 : Nat) ({ cls := "java/lang/Math", name := "min", desc := "(II)I" } : Jvm.MethodName) ∈ gG := gG_of (List.mem_of_getElem? (i := 55) rfl) rfl
set_option maxRecDepth 20000 in
theorem mw_31 : Jvm.Cond.static ({ cls := "java/lang/Math", name := "min", desc := "(II)I" } : Jvm.MethodName) ∈ gG := gG_of (List.mem_of_getElem? (i := 56) rfl) rfl
set_option maxRecDepth 20000 in
theorem mw_33 : Jvm.Cond.methodLink "PeelRibbons" (234 : Nat) ({ cls := "java/lang/Math", name := "max", desc := "(II)I" } : Jvm.MethodName) ∈ gG := gG_of (List.mem_of_getElem? (i := 58) rfl) rfl
set_option maxRecDepth 20000 in
theorem mw_34 : Jvm.Cond.static ({ cls := "java/lang/Math", name := "max", desc := "(II)I" } : Jvm.MethodName) ∈ gG := gG_of (List.mem_of_getElem? (i := 59) rfl) rfl
set_option maxRecDepth 20000 in
theorem mw_41 : Jvm.Cond.fieldLink "PeelRibbons$Slices" (7 : Nat) "PeelRibbons$Slices" "count" "I" ∈ gG := gG_of (List.mem_of_getElem? (i := 66) rfl) rfl
set_option maxRecDepth 20000 in
theorem mw_42 : Jvm.Cond.fieldLink "PeelRibbons$Slices" (13 : Nat) "PeelRibbons$Slices" "side" "I" ∈ gG := gG_of (List.mem_of_getElem? (i := 67) rfl) rfl
set_option maxRecDepth 20000 in
theorem mw_43 : Jvm.Cond.fieldLink "PeelRibbons$Slices" (22 : Nat) "PeelRibbons$Slices" "parts" "I" ∈ gG := gG_of (List.mem_of_getElem? (i := 68) rfl) rfl
set_option maxRecDepth 20000 in
theorem mw_44 : Jvm.Cond.fieldLink "PeelRibbons$Slices" (25 : Nat) "PeelRibbons$Slices" "reach" "I" ∈ gG := gG_of (List.mem_of_getElem? (i := 69) rfl) rfl
set_option maxRecDepth 20000 in
theorem mw_45 : Jvm.Cond.fieldLink "PeelRibbons$Slices" (28 : Nat) "PeelRibbons$Slices" "in" "[Z" ∈ gG := gG_of (List.mem_of_getElem? (i := 70) rfl) rfl
set_option maxRecDepth 20000 in
theorem mw_46 : Jvm.Cond.fieldLink "PeelRibbons$Slices" (32 : Nat) "PeelRibbons$Slices" "nearest" "[I" ∈ gG := gG_of (List.mem_of_getElem? (i := 71) rfl) rfl
set_option maxRecDepth 20000 in
theorem mw_47 : Jvm.Cond.fieldLink "PeelRibbons$Slices" (36 : Nat) "PeelRibbons$Slices" "isStale" "[Z" ∈ gG := gG_of (List.mem_of_getElem? (i := 72) rfl) rfl
set_option maxRecDepth 20000 in
theorem mw_48 : Jvm.Cond.fieldLink "PeelRibbons$Slices" (39 : Nat) "PeelRibbons$Slices" "nearestInColumn" "[I" ∈ gG := gG_of (List.mem_of_getElem? (i := 73) rfl) rfl
set_option maxRecDepth 20000 in
theorem mw_74 : Jvm.Cond.fieldLink "PeelRibbons$Axes" (17 : Nat) "PeelRibbons$Axes" "slices" "LPeelRibbons$Slices;" ∈ gG := gG_of (List.mem_of_getElem? (i := 99) rfl) rfl
set_option maxRecDepth 20000 in
theorem mw_75 : Jvm.Cond.fieldLink "PeelRibbons$Axes" (7 : Nat) "PeelRibbons$Axes" "numbers" "[I" ∈ gG := gG_of (List.mem_of_getElem? (i := 100) rfl) rfl
set_option maxRecDepth 20000 in
theorem mw_76 : Jvm.Cond.fieldLink "PeelRibbons$Axes" (24 : Nat) "PeelRibbons$Axes" "room" "I" ∈ gG := gG_of (List.mem_of_getElem? (i := 101) rfl) rfl
set_option maxRecDepth 20000 in
theorem mw_77 : Jvm.Cond.fieldLink "PeelRibbons$Axes" (13 : Nat) "PeelRibbons$Axes" "isStale" "Z" ∈ gG := gG_of (List.mem_of_getElem? (i := 102) rfl) rfl
set_option maxRecDepth 20000 in
theorem mw_93 : Jvm.Cond.fieldLink "PeelRibbons$Ribbon" (27 : Nat) "PeelRibbons$Ribbon" "isPeeled" "Z" ∈ gG := gG_of (List.mem_of_getElem? (i := 118) rfl) rfl
set_option maxRecDepth 20000 in
theorem mw_94 : Jvm.Cond.fieldLink "PeelRibbons$Ribbon" (15 : Nat) "PeelRibbons$Ribbon" "radius" "I" ∈ gG := gG_of (List.mem_of_getElem? (i := 119) rfl) rfl
set_option maxRecDepth 20000 in
theorem mw_95 : Jvm.Cond.fieldLink "PeelRibbons$Ribbon" (9 : Nat) "PeelRibbons$Ribbon" "thick" "I" ∈ gG := gG_of (List.mem_of_getElem? (i := 120) rfl) rfl
set_option maxRecDepth 20000 in
theorem mw_96 : Jvm.Cond.fieldLink "PeelRibbons$Ribbon" (24 : Nat) "PeelRibbons$Ribbon" "turns" "I" ∈ gG := gG_of (List.mem_of_getElem? (i := 121) rfl) rfl
set_option maxRecDepth 20000 in
theorem mw_112 : Jvm.Cond.fieldLink "PeelRibbons$Faults" (9 : Nat) "PeelRibbons$Faults" "angles" "[I" ∈ gG := gG_of (List.mem_of_getElem? (i := 137) rfl) rfl
set_option maxRecDepth 20000 in
theorem mw_113 : Jvm.Cond.fieldLink "PeelRibbons$Faults" (13 : Nat) "PeelRibbons$Faults" "radii" "[I" ∈ gG := gG_of (List.mem_of_getElem? (i := 138) rfl) rfl
set_option maxRecDepth 20000 in
theorem mw_114 : Jvm.Cond.fieldLink "PeelRibbons$Faults" (16 : Nat) "PeelRibbons$Faults" "kinds" "[I" ∈ gG := gG_of (List.mem_of_getElem? (i := 139) rfl) rfl
set_option maxRecDepth 20000 in
theorem mw_115 : Jvm.Cond.fieldLink "PeelRibbons$Faults" (19 : Nat) "PeelRibbons$Faults" "count" "I" ∈ gG := gG_of (List.mem_of_getElem? (i := 140) rfl) rfl
set_option maxRecDepth 20000 in
theorem mw_131 : Jvm.Cond.fieldLink "PeelRibbons$Leaves" (9 : Nat) "PeelRibbons$Leaves" "widths" "[I" ∈ gG := gG_of (List.mem_of_getElem? (i := 156) rfl) rfl
set_option maxRecDepth 20000 in
theorem mw_132 : Jvm.Cond.fieldLink "PeelRibbons$Leaves" (13 : Nat) "PeelRibbons$Leaves" "worths" "[I" ∈ gG := gG_of (List.mem_of_getElem? (i := 157) rfl) rfl
set_option maxRecDepth 20000 in
theorem mw_133 : Jvm.Cond.fieldLink "PeelRibbons$Leaves" (16 : Nat) "PeelRibbons$Leaves" "barredBits" "[I" ∈ gG := gG_of (List.mem_of_getElem? (i := 158) rfl) rfl
set_option maxRecDepth 20000 in
theorem mw_134 : Jvm.Cond.fieldLink "PeelRibbons$Leaves" (19 : Nat) "PeelRibbons$Leaves" "count" "I" ∈ gG := gG_of (List.mem_of_getElem? (i := 159) rfl) rfl
set_option maxRecDepth 20000 in
theorem mw_150 : Jvm.Cond.fieldLink "PeelRibbons$Clipping" (11 : Nat) "PeelRibbons$Clipping" "kindBitsAt" "[I" ∈ gG := gG_of (List.mem_of_getElem? (i := 175) rfl) rfl
set_option maxRecDepth 20000 in
theorem mw_151 : Jvm.Cond.fieldLink "PeelRibbons$Clipping" (15 : Nat) "PeelRibbons$Clipping" "bestFrom" "[J" ∈ gG := gG_of (List.mem_of_getElem? (i := 176) rfl) rfl
set_option maxRecDepth 20000 in
theorem mw_152 : Jvm.Cond.fieldLink "PeelRibbons$Clipping" (19 : Nat) "PeelRibbons$Clipping" "choiceAt" "[I" ∈ gG := gG_of (List.mem_of_getElem? (i := 177) rfl) rfl
set_option maxRecDepth 20000 in
theorem mw_153 : Jvm.Cond.fieldLink "PeelRibbons$Clipping" (22 : Nat) "PeelRibbons$Clipping" "firstSteps" "[I" ∈ gG := gG_of (List.mem_of_getElem? (i := 178) rfl) rfl
set_option maxRecDepth 20000 in
theorem mw_154 : Jvm.Cond.fieldLink "PeelRibbons$Clipping" (27 : Nat) "PeelRibbons$Clipping" "clearUntil" "[I" ∈ gG := gG_of (List.mem_of_getElem? (i := 179) rfl) rfl
set_option maxRecDepth 20000 in
theorem mw_155 : Jvm.Cond.fieldLink "PeelRibbons$Clipping" (30 : Nat) "PeelRibbons$Clipping" "isDone" "Z" ∈ gG := gG_of (List.mem_of_getElem? (i := 180) rfl) rfl
set_option maxRecDepth 20000 in
theorem mw_156 : Jvm.Cond.fieldLink "PeelRibbons$Clipping" (44 : Nat) "PeelRibbons$Clipping" "steps" "I" ∈ gG := gG_of (List.mem_of_getElem? (i := 181) rfl) rfl
set_option maxRecDepth 20000 in
theorem mw_157 : Jvm.Cond.fieldLink "PeelRibbons$Clipping" (34 : Nat) "PeelRibbons$Clipping" "count" "I" ∈ gG := gG_of (List.mem_of_getElem? (i := 182) rfl) rfl
set_option maxRecDepth 20000 in
theorem mw_158 : Jvm.Cond.fieldLink "PeelRibbons$Clipping" (38 : Nat) "PeelRibbons$Clipping" "worth" "I" ∈ gG := gG_of (List.mem_of_getElem? (i := 183) rfl) rfl
set_option maxRecDepth 20000 in
theorem mw_159 : Jvm.Cond.fieldLink "PeelRibbons$Clipping" (41 : Nat) "PeelRibbons$Clipping" "waste" "I" ∈ gG := gG_of (List.mem_of_getElem? (i := 184) rfl) rfl
set_option maxRecDepth 20000 in
theorem mw_188 : Jvm.Cond.fieldLink "PeelRibbons$KnifeRows" (11 : Nat) "PeelRibbons$KnifeRows" "radii" "[I" ∈ gG := gG_of (List.mem_of_getElem? (i := 213) rfl) rfl
set_option maxRecDepth 20000 in
theorem mw_189 : Jvm.Cond.fieldLink "PeelRibbons$KnifeRows" (15 : Nat) "PeelRibbons$KnifeRows" "angles" "[I" ∈ gG := gG_of (List.mem_of_getElem? (i := 214) rfl) rfl
set_option maxRecDepth 20000 in
theorem mw_190 : Jvm.Cond.fieldLink "PeelRibbons$KnifeRows" (18 : Nat) "PeelRibbons$KnifeRows" "count" "I" ∈ gG := gG_of (List.mem_of_getElem? (i := 215) rfl) rfl
set_option maxRecDepth 20000 in
theorem mw_198 : Jvm.Cond.fieldLink "PeelRibbons" (18 : Nat) "PeelRibbons" "slices" "LPeelRibbons$Slices;" ∈ gG := gG_of (List.mem_of_getElem? (i := 223) rfl) rfl
set_option maxRecDepth 20000 in
theorem mw_199 : Jvm.Cond.fieldLink "PeelRibbons" (27 : Nat) "PeelRibbons" "axes" "LPeelRibbons$Axes;" ∈ gG := gG_of (List.mem_of_getElem? (i := 224) rfl) rfl
set_option maxRecDepth 20000 in
theorem mw_200 : Jvm.Cond.fieldLink "PeelRibbons" (34 : Nat) "PeelRibbons" "ribbon" "LPeelRibbons$Ribbon;" ∈ gG := gG_of (List.mem_of_getElem? (i := 225) rfl) rfl
set_option maxRecDepth 20000 in
theorem mw_201 : Jvm.Cond.fieldLink "PeelRibbons" (41 : Nat) "PeelRibbons" "faults" "LPeelRibbons$Faults;" ∈ gG := gG_of (List.mem_of_getElem? (i := 226) rfl) rfl
set_option maxRecDepth 20000 in
theorem mw_202 : Jvm.Cond.fieldLink "PeelRibbons" (48 : Nat) "PeelRibbons" "leaves" "LPeelRibbons$Leaves;" ∈ gG := gG_of (List.mem_of_getElem? (i := 227) rfl) rfl
set_option maxRecDepth 20000 in
theorem mw_203 : Jvm.Cond.fieldLink "PeelRibbons" (55 : Nat) "PeelRibbons" "clipping" "LPeelRibbons$Clipping;" ∈ gG := gG_of (List.mem_of_getElem? (i := 228) rfl) rfl
set_option maxRecDepth 20000 in
theorem mw_204 : Jvm.Cond.fieldLink "PeelRibbons" (62 : Nat) "PeelRibbons" "knifeRows" "LPeelRibbons$KnifeRows;" ∈ gG := gG_of (List.mem_of_getElem? (i := 229) rfl) rfl
set_option maxRecDepth 20000 in
theorem mw_224 : Jvm.Cond.methodLink "PeelRibbons" (86 : Nat) ({ cls := "PeelRibbons$Axes", name := "greatestRoom", desc := "()I" } : Jvm.MethodName) ∈ gG := gG_of (List.mem_of_getElem? (i := 249) rfl) rfl
set_option maxRecDepth 20000 in
theorem mw_225 : Jvm.Cond.instanceMethod ({ cls := "PeelRibbons$Axes", name := "greatestRoom", desc := "()I" } : Jvm.MethodName) ∈ gG := gG_of (List.mem_of_getElem? (i := 250) rfl) rfl
set_option maxRecDepth 20000 in
theorem mw_226 : Jvm.Cond.selects "PeelRibbons$Axes" ({ cls := "PeelRibbons$Axes", name := "greatestRoom", desc := "()I" } : Jvm.MethodName) ({ cls := "PeelRibbons$Axes", name := "greatestRoom", desc := "()I" } : Jvm.MethodName) ∈ gG := gG_of (List.mem_of_getElem? (i := 251) rfl) rfl
set_option maxRecDepth 20000 in
theorem mw_228 : Jvm.Cond.methodLink "PeelRibbons$Axes" (21 : Nat) ({ cls := "PeelRibbons$Axes", name := "seekIfStale", desc := "()V" } : Jvm.MethodName) ∈ gG := gG_of (List.mem_of_getElem? (i := 253) rfl) rfl
set_option maxRecDepth 20000 in
theorem mw_230 : Jvm.Cond.instanceMethod ({ cls := "PeelRibbons$Axes", name := "seekIfStale", desc := "()V" } : Jvm.MethodName) ∈ gG := gG_of (List.mem_of_getElem? (i := 255) rfl) rfl
set_option maxRecDepth 20000 in
theorem mw_232 : Jvm.Cond.methodLink "PeelRibbons$Axes" (61 : Nat) ({ cls := "PeelRibbons$Axes", name := "seek", desc := "()V" } : Jvm.MethodName) ∈ gG := gG_of (List.mem_of_getElem? (i := 257) rfl) rfl
set_option maxRecDepth 20000 in
theorem mw_234 : Jvm.Cond.instanceMethod ({ cls := "PeelRibbons$Axes", name := "seek", desc := "()V" } : Jvm.MethodName) ∈ gG := gG_of (List.mem_of_getElem? (i := 259) rfl) rfl
set_option maxRecDepth 20000 in
theorem mw_236 : Jvm.Cond.methodLink "PeelRibbons$Axes" (64 : Nat) ({ cls := "PeelRibbons$Axes", name := "keep", desc := "(IIIII)V" } : Jvm.MethodName) ∈ gG := gG_of (List.mem_of_getElem? (i := 261) rfl) rfl
set_option maxRecDepth 20000 in
theorem mw_238 : Jvm.Cond.instanceMethod ({ cls := "PeelRibbons$Axes", name := "keep", desc := "(IIIII)V" } : Jvm.MethodName) ∈ gG := gG_of (List.mem_of_getElem? (i := 263) rfl) rfl
set_option maxRecDepth 20000 in
theorem mw_240 : Jvm.Cond.methodLink "PeelRibbons$Axes" (68 : Nat) ({ cls := "PeelRibbons$Slices", name := "side", desc := "()I" } : Jvm.MethodName) ∈ gG := gG_of (List.mem_of_getElem? (i := 265) rfl) rfl
set_option maxRecDepth 20000 in
theorem mw_241 : Jvm.Cond.instanceMethod ({ cls := "PeelRibbons$Slices", name := "side", desc := "()I" } : Jvm.MethodName) ∈ gG := gG_of (List.mem_of_getElem? (i := 266) rfl) rfl
set_option maxRecDepth 20000 in
theorem mw_242 : Jvm.Cond.selects "PeelRibbons$Slices" ({ cls := "PeelRibbons$Slices", name := "side", desc := "()I" } : Jvm.MethodName) ({ cls := "PeelRibbons$Slices", name := "side", desc := "()I" } : Jvm.MethodName) ∈ gG := gG_of (List.mem_of_getElem? (i := 267) rfl) rfl
set_option maxRecDepth 20000 in
theorem mw_244 : Jvm.Cond.methodLink "PeelRibbons$Axes" (32 : Nat) ({ cls := "PeelRibbons$Slices", name := "parts", desc := "()I" } : Jvm.MethodName) ∈ gG := gG_of (List.mem_of_getElem? (i := 269) rfl) rfl
set_option maxRecDepth 20000 in
theorem mw_245 : Jvm.Cond.instanceMethod ({ cls := "PeelRibbons$Slices", name := "parts", desc := "()I" } : Jvm.MethodName) ∈ gG := gG_of (List.mem_of_getElem? (i := 270) rfl) rfl
set_option maxRecDepth 20000 in
theorem mw_246 : Jvm.Cond.selects "PeelRibbons$Slices" ({ cls := "PeelRibbons$Slices", name := "parts", desc := "()I" } : Jvm.MethodName) ({ cls := "PeelRibbons$Slices", name := "parts", desc := "()I" } : Jvm.MethodName) ∈ gG := gG_of (List.mem_of_getElem? (i := 271) rfl) rfl
set_option maxRecDepth 20000 in
theorem mw_248 : Jvm.Cond.methodLink "PeelRibbons$Axes" (52 : Nat) ({ cls := "PeelRibbons$Slices", name := "nearestAt", desc := "(III)I" } : Jvm.MethodName) ∈ gG := gG_of (List.mem_of_getElem? (i := 273) rfl) rfl
set_option maxRecDepth 20000 in
theorem mw_249 : Jvm.Cond.instanceMethod ({ cls := "PeelRibbons$Slices", name := "nearestAt", desc := "(III)I" } : Jvm.MethodName) ∈ gG := gG_of (List.mem_of_getElem? (i := 274) rfl) rfl
set_option maxRecDepth 20000 in
theorem mw_250 : Jvm.Cond.selects "PeelRibbons$Slices" ({ cls := "PeelRibbons$Slices", name := "nearestAt", desc := "(III)I" } : Jvm.MethodName) ({ cls := "PeelRibbons$Slices", name := "nearestAt", desc := "(III)I" } : Jvm.MethodName) ∈ gG := gG_of (List.mem_of_getElem? (i := 275) rfl) rfl
set_option maxRecDepth 20000 in
theorem mw_252 : Jvm.Cond.methodLink "PeelRibbons$Slices" (52 : Nat) ({ cls := "PeelRibbons$Slices", name := "measure", desc := "(I)V" } : Jvm.MethodName) ∈ gG := gG_of (List.mem_of_getElem? (i := 277) rfl) rfl
set_option maxRecDepth 20000 in
theorem mw_254 : Jvm.Cond.instanceMethod ({ cls := "PeelRibbons$Slices", name := "measure", desc := "(I)V" } : Jvm.MethodName) ∈ gG := gG_of (List.mem_of_getElem? (i := 279) rfl) rfl
set_option maxRecDepth 20000 in
theorem mw_256 : Jvm.Cond.methodLink "PeelRibbons$Slices" (56 : Nat) ({ cls := "PeelRibbons$Slices", name := "nearestInColumnOf", desc := "(III)I" } : Jvm.MethodName) ∈ gG := gG_of (List.mem_of_getElem? (i := 281) rfl) rfl
set_option maxRecDepth 20000 in
theorem mw_258 : Jvm.Cond.instanceMethod ({ cls := "PeelRibbons$Slices", name := "nearestInColumnOf", desc := "(III)I" } : Jvm.MethodName) ∈ gG := gG_of (List.mem_of_getElem? (i := 283) rfl) rfl
set_option maxRecDepth 20000 in
theorem mw_260 : Jvm.Cond.constant "PeelRibbons$Slices" (65 : Nat) (2147483647 : Int32) ∈ gG := gG_of (List.mem_of_getElem? (i := 285) rfl) rfl
set_option maxRecDepth 20000 in
theorem mw_261 : Jvm.Cond.methodLink "PeelRibbons$Slices" (66 : Nat) ({ cls := "PeelRibbons$Slices", name := "isIn", desc := "(III)Z" } : Jvm.MethodName) ∈ gG := gG_of (List.mem_of_getElem? (i := 286) rfl) rfl
set_option maxRecDepth 20000 in
theorem mw_263 : Jvm.Cond.instanceMethod ({ cls := "PeelRibbons$Slices", name := "isIn", desc := "(III)Z" } : Jvm.MethodName) ∈ gG := gG_of (List.mem_of_getElem? (i := 288) rfl) rfl
set_option maxRecDepth 20000 in
theorem mw_265 : Jvm.Cond.methodLink "PeelRibbons$Slices" (75 : Nat) ({ cls := "PeelRibbons$Slices", name := "hasCell", desc := "(III)Z" } : Jvm.MethodName) ∈ gG := gG_of (List.mem_of_getElem? (i := 290) rfl) rfl
set_option maxRecDepth 20000 in
theorem mw_266 : Jvm.Cond.instanceMethod ({ cls := "PeelRibbons$Slices", name := "hasCell", desc := "(III)Z" } : Jvm.MethodName) ∈ gG := gG_of (List.mem_of_getElem? (i := 291) rfl) rfl
set_option maxRecDepth 20000 in
theorem mw_267 : Jvm.Cond.selects "PeelRibbons$Slices" ({ cls := "PeelRibbons$Slices", name := "hasCell", desc := "(III)Z" } : Jvm.MethodName) ({ cls := "PeelRibbons$Slices", name := "hasCell", desc := "(III)Z" } : Jvm.MethodName) ∈ gG := gG_of (List.mem_of_getElem? (i := 292) rfl) rfl
set_option maxRecDepth 20000 in
theorem mw_270 : Jvm.Cond.static ({ cls := "PeelRibbons", name := "isWithin", desc := "(III)Z" } : Jvm.MethodName) ∈ gG := gG_of (List.mem_of_getElem? (i := 295) rfl) rfl
set_option maxRecDepth 20000 in
theorem mw_272 : Jvm.Cond.methodLink "PeelRibbons$Slices" (48 : Nat) ({ cls := "PeelRibbons$Slices", name := "indexOf", desc := "(III)I" } : Jvm.MethodName) ∈ gG := gG_of (List.mem_of_getElem? (i := 297) rfl) rfl
set_option maxRecDepth 20000 in
theorem mw_274 : Jvm.Cond.instanceMethod ({ cls := "PeelRibbons$Slices", name := "indexOf", desc := "(III)I" } : Jvm.MethodName) ∈ gG := gG_of (List.mem_of_getElem? (i := 299) rfl) rfl
set_option maxRecDepth 20000 in
theorem mw_276 : Jvm.Cond.methodLink "PeelRibbons$Slices" (69 : Nat) ({ cls := "PeelRibbons$Slices", name := "gap", desc := "(II)I" } : Jvm.MethodName) ∈ gG := gG_of (List.mem_of_getElem? (i := 301) rfl) rfl
set_option maxRecDepth 20000 in
theorem mw_278 : Jvm.Cond.instanceMethod ({ cls := "PeelRibbons$Slices", name := "gap", desc := "(II)I" } : Jvm.MethodName) ∈ gG := gG_of (List.mem_of_getElem? (i := 303) rfl) rfl
set_option maxRecDepth 20000 in
theorem mw_280 : Jvm.Cond.methodLink "PeelRibbons$Slices" (72 : Nat) ({ cls := "java/lang/Math", name := "min", desc := "(II)I" } : Jvm.MethodName) ∈ gG := gG_of (List.mem_of_getElem? (i := 305) rfl) rfl
set_option maxRecDepth 20000 in
theorem mw_281 : Jvm.Cond.methodLink "PeelRibbons$Slices" (59 : Nat) ({ cls := "PeelRibbons$Slices", name := "nearestOverColumns", desc := "(I)I" } : Jvm.MethodName) ∈ gG := gG_of (List.mem_of_getElem? (i := 306) rfl) rfl
set_option maxRecDepth 20000 in
theorem mw_283 : Jvm.Cond.instanceMethod ({ cls := "PeelRibbons$Slices", name := "nearestOverColumns", desc := "(I)I" } : Jvm.MethodName) ∈ gG := gG_of (List.mem_of_getElem? (i := 308) rfl) rfl
set_option maxRecDepth 20000 in
theorem mw_285 : Jvm.Cond.methodLink "PeelRibbons$Axes" (71 : Nat) ({ cls := "PeelRibbons$Axes", name := "seekFrom", desc := "(II)V" } : Jvm.MethodName) ∈ gG := gG_of (List.mem_of_getElem? (i := 310) rfl) rfl
set_option maxRecDepth 20000 in
theorem mw_287 : Jvm.Cond.instanceMethod ({ cls := "PeelRibbons$Axes", name := "seekFrom", desc := "(II)V" } : Jvm.MethodName) ∈ gG := gG_of (List.mem_of_getElem? (i := 312) rfl) rfl
set_option maxRecDepth 20000 in
theorem mw_289 : Jvm.Cond.methodLink "PeelRibbons$Axes" (38 : Nat) ({ cls := "PeelRibbons$Axes", name := "roomAbove", desc := "(IIIII)I" } : Jvm.MethodName) ∈ gG := gG_of (List.mem_of_getElem? (i := 314) rfl) rfl
set_option maxRecDepth 20000 in
theorem mw_291 : Jvm.Cond.instanceMethod ({ cls := "PeelRibbons$Axes", name := "roomAbove", desc := "(IIIII)I" } : Jvm.MethodName) ∈ gG := gG_of (List.mem_of_getElem? (i := 316) rfl) rfl
set_option maxRecDepth 20000 in
theorem mw_293 : Jvm.Cond.constant "PeelRibbons$Axes" (44 : Nat) (2147483647 : Int32) ∈ gG := gG_of (List.mem_of_getElem? (i := 318) rfl) rfl
set_option maxRecDepth 20000 in
theorem mw_294 : Jvm.Cond.methodLink "PeelRibbons$Axes" (45 : Nat) ({ cls := "PeelRibbons$Slices", name := "count", desc := "()I" } : Jvm.MethodName) ∈ gG := gG_of (List.mem_of_getElem? (i := 319) rfl) rfl
set_option maxRecDepth 20000 in
theorem mw_295 : Jvm.Cond.instanceMethod ({ cls := "PeelRibbons$Slices", name := "count", desc := "()I" } : Jvm.MethodName) ∈ gG := gG_of (List.mem_of_getElem? (i := 320) rfl) rfl
set_option maxRecDepth 20000 in
theorem mw_296 : Jvm.Cond.selects "PeelRibbons$Slices" ({ cls := "PeelRibbons$Slices", name := "count", desc := "()I" } : Jvm.MethodName) ({ cls := "PeelRibbons$Slices", name := "count", desc := "()I" } : Jvm.MethodName) ∈ gG := gG_of (List.mem_of_getElem? (i := 321) rfl) rfl
set_option maxRecDepth 20000 in
theorem mw_298 : Jvm.Cond.methodLink "PeelRibbons$Axes" (48 : Nat) ({ cls := "PeelRibbons$Axes", name := "placeAt", desc := "(III)I" } : Jvm.MethodName) ∈ gG := gG_of (List.mem_of_getElem? (i := 323) rfl) rfl
set_option maxRecDepth 20000 in
theorem mw_300 : Jvm.Cond.instanceMethod ({ cls := "PeelRibbons$Axes", name := "placeAt", desc := "(III)I" } : Jvm.MethodName) ∈ gG := gG_of (List.mem_of_getElem? (i := 325) rfl) rfl
set_option maxRecDepth 20000 in
theorem mw_302 : Jvm.Cond.methodLink "PeelRibbons$Axes" (55 : Nat) ({ cls := "java/lang/Math", name := "min", desc := "(II)I" } : Jvm.MethodName) ∈ gG := gG_of (List.mem_of_getElem? (i := 327) rfl) rfl
set_option maxRecDepth 20000 in
theorem mw_307 : Jvm.Cond.methodLink "PeelRibbons" (99 : Nat) ({ cls := "PeelRibbons$Axes", name := "greatestRadius", desc := "()I" } : Jvm.MethodName) ∈ gG := gG_of (List.mem_of_getElem? (i := 332) rfl) rfl
set_option maxRecDepth 20000 in
theorem mw_308 : Jvm.Cond.instanceMethod ({ cls := "PeelRibbons$Axes", name := "greatestRadius", desc := "()I" } : Jvm.MethodName) ∈ gG := gG_of (List.mem_of_getElem? (i := 333) rfl) rfl
set_option maxRecDepth 20000 in
theorem mw_309 : Jvm.Cond.selects "PeelRibbons$Axes" ({ cls := "PeelRibbons$Axes", name := "greatestRadius", desc := "()I" } : Jvm.MethodName) ({ cls := "PeelRibbons$Axes", name := "greatestRadius", desc := "()I" } : Jvm.MethodName) ∈ gG := gG_of (List.mem_of_getElem? (i := 334) rfl) rfl
set_option maxRecDepth 20000 in
theorem mw_311 : Jvm.Cond.methodLink "PeelRibbons$Axes" (28 : Nat) ({ cls := "PeelRibbons$Axes", name := "rootOf", desc := "(I)I" } : Jvm.MethodName) ∈ gG := gG_of (List.mem_of_getElem? (i := 336) rfl) rfl
set_option maxRecDepth 20000 in
theorem mw_312 : Jvm.Cond.static ({ cls := "PeelRibbons$Axes", name := "rootOf", desc := "(I)I" } : Jvm.MethodName) ∈ gG := gG_of (List.mem_of_getElem? (i := 337) rfl) rfl
set_option maxRecDepth 20000 in
theorem mw_325 : Jvm.Cond.methodLink "PeelRibbons" (66 : Nat) ({ cls := "PeelRibbons$Slices", name := "hasCell", desc := "(III)Z" } : Jvm.MethodName) ∈ gG := gG_of (List.mem_of_getElem? (i := 350) rfl) rfl
set_option maxRecDepth 20000 in
theorem mw_394 : Jvm.Cond.methodLink "PeelRibbons" (77 : Nat) ({ cls := "PeelRibbons$Slices", name := "tell", desc := "(IIIZ)Z" } : Jvm.MethodName) ∈ gG := gG_of (List.mem_of_getElem? (i := 419) rfl) rfl
set_option maxRecDepth 20000 in
theorem mw_395 : Jvm.Cond.instanceMethod ({ cls := "PeelRibbons$Slices", name := "tell", desc := "(IIIZ)Z" } : Jvm.MethodName) ∈ gG := gG_of (List.mem_of_getElem? (i := 420) rfl) rfl
set_option maxRecDepth 20000 in
theorem mw_396 : Jvm.Cond.selects "PeelRibbons$Slices" ({ cls := "PeelRibbons$Slices", name := "tell", desc := "(IIIZ)Z" } : Jvm.MethodName) ({ cls := "PeelRibbons$Slices", name := "tell", desc := "(IIIZ)Z" } : Jvm.MethodName) ∈ gG := gG_of (List.mem_of_getElem? (i := 421) rfl) rfl
set_option maxRecDepth 20000 in
theorem mw_398 : Jvm.Cond.methodLink "PeelRibbons" (81 : Nat) ({ cls := "PeelRibbons$Axes", name := "forget", desc := "()V" } : Jvm.MethodName) ∈ gG := gG_of (List.mem_of_getElem? (i := 423) rfl) rfl
set_option maxRecDepth 20000 in
theorem mw_399 : Jvm.Cond.instanceMethod ({ cls := "PeelRibbons$Axes", name := "forget", desc := "()V" } : Jvm.MethodName) ∈ gG := gG_of (List.mem_of_getElem? (i := 424) rfl) rfl
set_option maxRecDepth 20000 in
theorem mw_400 : Jvm.Cond.selects "PeelRibbons$Axes" ({ cls := "PeelRibbons$Axes", name := "forget", desc := "()V" } : Jvm.MethodName) ({ cls := "PeelRibbons$Axes", name := "forget", desc := "()V" } : Jvm.MethodName) ∈ gG := gG_of (List.mem_of_getElem? (i := 425) rfl) rfl
set_option maxRecDepth 20000 in
theorem mw_402 : Jvm.Cond.methodLink "PeelRibbons" (84 : Nat) ({ cls := "PeelRibbons$Ribbon", name := "forget", desc := "()V" } : Jvm.MethodName) ∈ gG := gG_of (List.mem_of_getElem? (i := 427) rfl) rfl
set_option maxRecDepth 20000 in
theorem mw_403 : Jvm.Cond.instanceMethod ({ cls := "PeelRibbons$Ribbon", name := "forget", desc := "()V" } : Jvm.MethodName) ∈ gG := gG_of (List.mem_of_getElem? (i := 428) rfl) rfl
set_option maxRecDepth 20000 in
theorem mw_404 : Jvm.Cond.selects "PeelRibbons$Ribbon" ({ cls := "PeelRibbons$Ribbon", name := "forget", desc := "()V" } : Jvm.MethodName) ({ cls := "PeelRibbons$Ribbon", name := "forget", desc := "()V" } : Jvm.MethodName) ∈ gG := gG_of (List.mem_of_getElem? (i := 429) rfl) rfl
set_option maxRecDepth 20000 in
theorem mw_406 : Jvm.Cond.methodLink "PeelRibbons" (85 : Nat) ({ cls := "PeelRibbons$Clipping", name := "forget", desc := "()V" } : Jvm.MethodName) ∈ gG := gG_of (List.mem_of_getElem? (i := 431) rfl) rfl
set_option maxRecDepth 20000 in
theorem mw_407 : Jvm.Cond.instanceMethod ({ cls := "PeelRibbons$Clipping", name := "forget", desc := "()V" } : Jvm.MethodName) ∈ gG := gG_of (List.mem_of_getElem? (i := 432) rfl) rfl
set_option maxRecDepth 20000 in
theorem mw_408 : Jvm.Cond.selects "PeelRibbons$Clipping" ({ cls := "PeelRibbons$Clipping", name := "forget", desc := "()V" } : Jvm.MethodName) ({ cls := "PeelRibbons$Clipping", name := "forget", desc := "()V" } : Jvm.MethodName) ∈ gG := gG_of (List.mem_of_getElem? (i := 433) rfl) rfl
set_option maxRecDepth 20000 in
theorem mw_417 : Jvm.Cond.methodLink "PeelRibbons" (90 : Nat) ({ cls := "PeelRibbons", name := "isWithin", desc := "(III)Z" } : Jvm.MethodName) ∈ gG := gG_of (List.mem_of_getElem? (i := 442) rfl) rfl
set_option maxRecDepth 20000 in
theorem mw_419 : Jvm.Cond.methodLink "PeelRibbons" (95 : Nat) ({ cls := "PeelRibbons$Axes", name := "number", desc := "(I)I" } : Jvm.MethodName) ∈ gG := gG_of (List.mem_of_getElem? (i := 444) rfl) rfl
set_option maxRecDepth 20000 in
theorem mw_420 : Jvm.Cond.instanceMethod ({ cls := "PeelRibbons$Axes", name := "number", desc := "(I)I" } : Jvm.MethodName) ∈ gG := gG_of (List.mem_of_getElem? (i := 445) rfl) rfl
set_option maxRecDepth 20000 in
theorem mw_421 : Jvm.Cond.selects "PeelRibbons$Axes" ({ cls := "PeelRibbons$Axes", name := "number", desc := "(I)I" } : Jvm.MethodName) ({ cls := "PeelRibbons$Axes", name := "number", desc := "(I)I" } : Jvm.MethodName) ∈ gG := gG_of (List.mem_of_getElem? (i := 446) rfl) rfl
set_option maxRecDepth 20000 in
theorem mw_430 : Jvm.Cond.methodLink "PeelRibbons" (102 : Nat) ({ cls := "PeelRibbons$Slices", name := "hasCorner", desc := "(II)Z" } : Jvm.MethodName) ∈ gG := gG_of (List.mem_of_getElem? (i := 455) rfl) rfl
set_option maxRecDepth 20000 in
theorem mw_431 : Jvm.Cond.instanceMethod ({ cls := "PeelRibbons$Slices", name := "hasCorner", desc := "(II)Z" } : Jvm.MethodName) ∈ gG := gG_of (List.mem_of_getElem? (i := 456) rfl) rfl
set_option maxRecDepth 20000 in
theorem mw_432 : Jvm.Cond.selects "PeelRibbons$Slices" ({ cls := "PeelRibbons$Slices", name := "hasCorner", desc := "(II)Z" } : Jvm.MethodName) ({ cls := "PeelRibbons$Slices", name := "hasCorner", desc := "(II)Z" } : Jvm.MethodName) ∈ gG := gG_of (List.mem_of_getElem? (i := 457) rfl) rfl
set_option maxRecDepth 20000 in
theorem mw_435 : Jvm.Cond.methodLink "PeelRibbons" (108 : Nat) ({ cls := "PeelRibbons$Axes", name := "exactRoom", desc := "(IIII)I" } : Jvm.MethodName) ∈ gG := gG_of (List.mem_of_getElem? (i := 460) rfl) rfl
set_option maxRecDepth 20000 in
theorem mw_436 : Jvm.Cond.instanceMethod ({ cls := "PeelRibbons$Axes", name := "exactRoom", desc := "(IIII)I" } : Jvm.MethodName) ∈ gG := gG_of (List.mem_of_getElem? (i := 461) rfl) rfl
set_option maxRecDepth 20000 in
theorem mw_437 : Jvm.Cond.selects "PeelRibbons$Axes" ({ cls := "PeelRibbons$Axes", name := "exactRoom", desc := "(IIII)I" } : Jvm.MethodName) ({ cls := "PeelRibbons$Axes", name := "exactRoom", desc := "(IIII)I" } : Jvm.MethodName) ∈ gG := gG_of (List.mem_of_getElem? (i := 462) rfl) rfl
set_option maxRecDepth 20000 in
theorem mw_463 : Jvm.Cond.methodLink "PeelRibbons" (117 : Nat) ({ cls := "PeelRibbons$Ribbon", name := "peelOff", desc := "(III)V" } : Jvm.MethodName) ∈ gG := gG_of (List.mem_of_getElem? (i := 488) rfl) rfl
set_option maxRecDepth 20000 in
theorem mw_464 : Jvm.Cond.instanceMethod ({ cls := "PeelRibbons$Ribbon", name := "peelOff", desc := "(III)V" } : Jvm.MethodName) ∈ gG := gG_of (List.mem_of_getElem? (i := 489) rfl) rfl
set_option maxRecDepth 20000 in
theorem mw_465 : Jvm.Cond.selects "PeelRibbons$Ribbon" ({ cls := "PeelRibbons$Ribbon", name := "peelOff", desc := "(III)V" } : Jvm.MethodName) ({ cls := "PeelRibbons$Ribbon", name := "peelOff", desc := "(III)V" } : Jvm.MethodName) ∈ gG := gG_of (List.mem_of_getElem? (i := 490) rfl) rfl
set_option maxRecDepth 20000 in
theorem mw_467 : Jvm.Cond.methodLink "PeelRibbons$Ribbon" (18 : Nat) ({ cls := "java/lang/Math", name := "max", desc := "(II)I" } : Jvm.MethodName) ∈ gG := gG_of (List.mem_of_getElem? (i := 492) rfl) rfl
set_option maxRecDepth 20000 in
theorem mw_468 : Jvm.Cond.methodLink "PeelRibbons" (121 : Nat) ({ cls := "PeelRibbons$Ribbon", name := "turns", desc := "()I" } : Jvm.MethodName) ∈ gG := gG_of (List.mem_of_getElem? (i := 493) rfl) rfl
set_option maxRecDepth 20000 in
theorem mw_469 : Jvm.Cond.instanceMethod ({ cls := "PeelRibbons$Ribbon", name := "turns", desc := "()I" } : Jvm.MethodName) ∈ gG := gG_of (List.mem_of_getElem? (i := 494) rfl) rfl
set_option maxRecDepth 20000 in
theorem mw_470 : Jvm.Cond.selects "PeelRibbons$Ribbon" ({ cls := "PeelRibbons$Ribbon", name := "turns", desc := "()I" } : Jvm.MethodName) ({ cls := "PeelRibbons$Ribbon", name := "turns", desc := "()I" } : Jvm.MethodName) ∈ gG := gG_of (List.mem_of_getElem? (i := 495) rfl) rfl
set_option maxRecDepth 20000 in
theorem mw_480 : Jvm.Cond.methodLink "PeelRibbons" (124 : Nat) ({ cls := "PeelRibbons$Ribbon", name := "isPeeled", desc := "()Z" } : Jvm.MethodName) ∈ gG := gG_of (List.mem_of_getElem? (i := 505) rfl) rfl
set_option maxRecDepth 20000 in
theorem mw_481 : Jvm.Cond.instanceMethod ({ cls := "PeelRibbons$Ribbon", name := "isPeeled", desc := "()Z" } : Jvm.MethodName) ∈ gG := gG_of (List.mem_of_getElem? (i := 506) rfl) rfl
set_option maxRecDepth 20000 in
theorem mw_482 : Jvm.Cond.selects "PeelRibbons$Ribbon" ({ cls := "PeelRibbons$Ribbon", name := "isPeeled", desc := "()Z" } : Jvm.MethodName) ({ cls := "PeelRibbons$Ribbon", name := "isPeeled", desc := "()Z" } : Jvm.MethodName) ∈ gG := gG_of (List.mem_of_getElem? (i := 507) rfl) rfl
set_option maxRecDepth 20000 in
theorem mw_501 : Jvm.Cond.methodLink "PeelRibbons" (135 : Nat) ({ cls := "PeelRibbons$Ribbon", name := "lengthBefore", desc := "(I)I" } : Jvm.MethodName) ∈ gG := gG_of (List.mem_of_getElem? (i := 526) rfl) rfl
set_option maxRecDepth 20000 in
theorem mw_502 : Jvm.Cond.instanceMethod ({ cls := "PeelRibbons$Ribbon", name := "lengthBefore", desc := "(I)I" } : Jvm.MethodName) ∈ gG := gG_of (List.mem_of_getElem? (i := 527) rfl) rfl
set_option maxRecDepth 20000 in
theorem mw_503 : Jvm.Cond.selects "PeelRibbons$Ribbon" ({ cls := "PeelRibbons$Ribbon", name := "lengthBefore", desc := "(I)I" } : Jvm.MethodName) ({ cls := "PeelRibbons$Ribbon", name := "lengthBefore", desc := "(I)I" } : Jvm.MethodName) ∈ gG := gG_of (List.mem_of_getElem? (i := 528) rfl) rfl
set_option maxRecDepth 20000 in
theorem mw_505 : Jvm.Cond.methodLink "PeelRibbons$Ribbon" (35 : Nat) ({ cls := "PeelRibbons$Ribbon", name := "roundOf", desc := "(I)I" } : Jvm.MethodName) ∈ gG := gG_of (List.mem_of_getElem? (i := 530) rfl) rfl
set_option maxRecDepth 20000 in
theorem mw_506 : Jvm.Cond.static ({ cls := "PeelRibbons$Ribbon", name := "roundOf", desc := "(I)I" } : Jvm.MethodName) ∈ gG := gG_of (List.mem_of_getElem? (i := 531) rfl) rfl
set_option maxRecDepth 20000 in
theorem mw_515 : Jvm.Cond.methodLink "PeelRibbons" (138 : Nat) ({ cls := "PeelRibbons", name := "isKind", desc := "(I)Z" } : Jvm.MethodName) ∈ gG := gG_of (List.mem_of_getElem? (i := 540) rfl) rfl
set_option maxRecDepth 20000 in
theorem mw_516 : Jvm.Cond.static ({ cls := "PeelRibbons", name := "isKind", desc := "(I)Z" } : Jvm.MethodName) ∈ gG := gG_of (List.mem_of_getElem? (i := 541) rfl) rfl
set_option maxRecDepth 20000 in
theorem mw_519 : Jvm.Cond.methodLink "PeelRibbons" (144 : Nat) ({ cls := "PeelRibbons$Faults", name := "isFull", desc := "()Z" } : Jvm.MethodName) ∈ gG := gG_of (List.mem_of_getElem? (i := 544) rfl) rfl
set_option maxRecDepth 20000 in
theorem mw_520 : Jvm.Cond.instanceMethod ({ cls := "PeelRibbons$Faults", name := "isFull", desc := "()Z" } : Jvm.MethodName) ∈ gG := gG_of (List.mem_of_getElem? (i := 545) rfl) rfl
set_option maxRecDepth 20000 in
theorem mw_521 : Jvm.Cond.selects "PeelRibbons$Faults" ({ cls := "PeelRibbons$Faults", name := "isFull", desc := "()Z" } : Jvm.MethodName) ({ cls := "PeelRibbons$Faults", name := "isFull", desc := "()Z" } : Jvm.MethodName) ∈ gG := gG_of (List.mem_of_getElem? (i := 546) rfl) rfl
set_option maxRecDepth 20000 in
theorem mw_524 : Jvm.Cond.methodLink "PeelRibbons" (149 : Nat) ({ cls := "PeelRibbons$Faults", name := "add", desc := "(III)I" } : Jvm.MethodName) ∈ gG := gG_of (List.mem_of_getElem? (i := 549) rfl) rfl
set_option maxRecDepth 20000 in
theorem mw_525 : Jvm.Cond.instanceMethod ({ cls := "PeelRibbons$Faults", name := "add", desc := "(III)I" } : Jvm.MethodName) ∈ gG := gG_of (List.mem_of_getElem? (i := 550) rfl) rfl
set_option maxRecDepth 20000 in
theorem mw_526 : Jvm.Cond.selects "PeelRibbons$Faults" ({ cls := "PeelRibbons$Faults", name := "add", desc := "(III)I" } : Jvm.MethodName) ({ cls := "PeelRibbons$Faults", name := "add", desc := "(III)I" } : Jvm.MethodName) ∈ gG := gG_of (List.mem_of_getElem? (i := 551) rfl) rfl
set_option maxRecDepth 20000 in
theorem mw_535 : Jvm.Cond.methodLink "PeelRibbons" (152 : Nat) ({ cls := "PeelRibbons$Faults", name := "has", desc := "(I)Z" } : Jvm.MethodName) ∈ gG := gG_of (List.mem_of_getElem? (i := 560) rfl) rfl
set_option maxRecDepth 20000 in
theorem mw_536 : Jvm.Cond.instanceMethod ({ cls := "PeelRibbons$Faults", name := "has", desc := "(I)Z" } : Jvm.MethodName) ∈ gG := gG_of (List.mem_of_getElem? (i := 561) rfl) rfl
set_option maxRecDepth 20000 in
theorem mw_537 : Jvm.Cond.selects "PeelRibbons$Faults" ({ cls := "PeelRibbons$Faults", name := "has", desc := "(I)Z" } : Jvm.MethodName) ({ cls := "PeelRibbons$Faults", name := "has", desc := "(I)Z" } : Jvm.MethodName) ∈ gG := gG_of (List.mem_of_getElem? (i := 562) rfl) rfl
set_option maxRecDepth 20000 in
theorem mw_541 : Jvm.Cond.methodLink "PeelRibbons" (157 : Nat) ({ cls := "PeelRibbons$Faults", name := "placeIn", desc := "(LPeelRibbons$Ribbon;I)I" } : Jvm.MethodName) ∈ gG := gG_of (List.mem_of_getElem? (i := 566) rfl) rfl
set_option maxRecDepth 20000 in
theorem mw_542 : Jvm.Cond.instanceMethod ({ cls := "PeelRibbons$Faults", name := "placeIn", desc := "(LPeelRibbons$Ribbon;I)I" } : Jvm.MethodName) ∈ gG := gG_of (List.mem_of_getElem? (i := 567) rfl) rfl
set_option maxRecDepth 20000 in
theorem mw_543 : Jvm.Cond.selects "PeelRibbons$Faults" ({ cls := "PeelRibbons$Faults", name := "placeIn", desc := "(LPeelRibbons$Ribbon;I)I" } : Jvm.MethodName) ({ cls := "PeelRibbons$Faults", name := "placeIn", desc := "(LPeelRibbons$Ribbon;I)I" } : Jvm.MethodName) ∈ gG := gG_of (List.mem_of_getElem? (i := 568) rfl) rfl
set_option maxRecDepth 20000 in
theorem mw_545 : Jvm.Cond.methodLink "PeelRibbons$Faults" (29 : Nat) ({ cls := "PeelRibbons$Ribbon", name := "placeOf", desc := "(II)I" } : Jvm.MethodName) ∈ gG := gG_of (List.mem_of_getElem? (i := 570) rfl) rfl
set_option maxRecDepth 20000 in
theorem mw_546 : Jvm.Cond.instanceMethod ({ cls := "PeelRibbons$Ribbon", name := "placeOf", desc := "(II)I" } : Jvm.MethodName) ∈ gG := gG_of (List.mem_of_getElem? (i := 571) rfl) rfl
set_option maxRecDepth 20000 in
theorem mw_547 : Jvm.Cond.selects "PeelRibbons$Ribbon" ({ cls := "PeelRibbons$Ribbon", name := "placeOf", desc := "(II)I" } : Jvm.MethodName) ({ cls := "PeelRibbons$Ribbon", name := "placeOf", desc := "(II)I" } : Jvm.MethodName) ∈ gG := gG_of (List.mem_of_getElem? (i := 572) rfl) rfl
set_option maxRecDepth 20000 in
theorem mw_549 : Jvm.Cond.methodLink "PeelRibbons$Ribbon" (31 : Nat) ({ cls := "PeelRibbons$Ribbon", name := "lengthBefore", desc := "(I)I" } : Jvm.MethodName) ∈ gG := gG_of (List.mem_of_getElem? (i := 574) rfl) rfl
set_option maxRecDepth 20000 in
theorem mw_557 : Jvm.Cond.constant "PeelRibbons" (161 : Nat) (1000000 : Int32) ∈ gG := gG_of (List.mem_of_getElem? (i := 582) rfl) rfl
set_option maxRecDepth 20000 in
theorem mw_559 : Jvm.Cond.methodLink "PeelRibbons" (164 : Nat) ({ cls := "PeelRibbons$Leaves", name := "isFull", desc := "()Z" } : Jvm.MethodName) ∈ gG := gG_of (List.mem_of_getElem? (i := 584) rfl) rfl
set_option maxRecDepth 20000 in
theorem mw_560 : Jvm.Cond.instanceMethod ({ cls := "PeelRibbons$Leaves", name := "isFull", desc := "()Z" } : Jvm.MethodName) ∈ gG := gG_of (List.mem_of_getElem? (i := 585) rfl) rfl
set_option maxRecDepth 20000 in
theorem mw_561 : Jvm.Cond.selects "PeelRibbons$Leaves" ({ cls := "PeelRibbons$Leaves", name := "isFull", desc := "()Z" } : Jvm.MethodName) ({ cls := "PeelRibbons$Leaves", name := "isFull", desc := "()Z" } : Jvm.MethodName) ∈ gG := gG_of (List.mem_of_getElem? (i := 586) rfl) rfl
set_option maxRecDepth 20000 in
theorem mw_564 : Jvm.Cond.methodLink "PeelRibbons" (167 : Nat) ({ cls := "PeelRibbons$Leaves", name := "add", desc := "(II)I" } : Jvm.MethodName) ∈ gG := gG_of (List.mem_of_getElem? (i := 589) rfl) rfl
set_option maxRecDepth 20000 in
theorem mw_565 : Jvm.Cond.instanceMethod ({ cls := "PeelRibbons$Leaves", name := "add", desc := "(II)I" } : Jvm.MethodName) ∈ gG := gG_of (List.mem_of_getElem? (i := 590) rfl) rfl
set_option maxRecDepth 20000 in
theorem mw_566 : Jvm.Cond.selects "PeelRibbons$Leaves" ({ cls := "PeelRibbons$Leaves", name := "add", desc := "(II)I" } : Jvm.MethodName) ({ cls := "PeelRibbons$Leaves", name := "add", desc := "(II)I" } : Jvm.MethodName) ∈ gG := gG_of (List.mem_of_getElem? (i := 591) rfl) rfl
set_option maxRecDepth 20000 in
theorem mw_575 : Jvm.Cond.methodLink "PeelRibbons" (170 : Nat) ({ cls := "PeelRibbons$Leaves", name := "has", desc := "(I)Z" } : Jvm.MethodName) ∈ gG := gG_of (List.mem_of_getElem? (i := 600) rfl) rfl
set_option maxRecDepth 20000 in
theorem mw_576 : Jvm.Cond.instanceMethod ({ cls := "PeelRibbons$Leaves", name := "has", desc := "(I)Z" } : Jvm.MethodName) ∈ gG := gG_of (List.mem_of_getElem? (i := 601) rfl) rfl
set_option maxRecDepth 20000 in
theorem mw_577 : Jvm.Cond.selects "PeelRibbons$Leaves" ({ cls := "PeelRibbons$Leaves", name := "has", desc := "(I)Z" } : Jvm.MethodName) ({ cls := "PeelRibbons$Leaves", name := "has", desc := "(I)Z" } : Jvm.MethodName) ∈ gG := gG_of (List.mem_of_getElem? (i := 602) rfl) rfl
set_option maxRecDepth 20000 in
theorem mw_581 : Jvm.Cond.methodLink "PeelRibbons" (173 : Nat) ({ cls := "PeelRibbons$Leaves", name := "tellBar", desc := "(IIZ)Z" } : Jvm.MethodName) ∈ gG := gG_of (List.mem_of_getElem? (i := 606) rfl) rfl
set_option maxRecDepth 20000 in
theorem mw_582 : Jvm.Cond.instanceMethod ({ cls := "PeelRibbons$Leaves", name := "tellBar", desc := "(IIZ)Z" } : Jvm.MethodName) ∈ gG := gG_of (List.mem_of_getElem? (i := 607) rfl) rfl
set_option maxRecDepth 20000 in
theorem mw_583 : Jvm.Cond.selects "PeelRibbons$Leaves" ({ cls := "PeelRibbons$Leaves", name := "tellBar", desc := "(IIZ)Z" } : Jvm.MethodName) ({ cls := "PeelRibbons$Leaves", name := "tellBar", desc := "(IIZ)Z" } : Jvm.MethodName) ∈ gG := gG_of (List.mem_of_getElem? (i := 608) rfl) rfl
set_option maxRecDepth 20000 in
theorem mw_585 : Jvm.Cond.methodLink "PeelRibbons$Leaves" (29 : Nat) ({ cls := "PeelRibbons$Leaves", name := "barsAny", desc := "(II)Z" } : Jvm.MethodName) ∈ gG := gG_of (List.mem_of_getElem? (i := 610) rfl) rfl
set_option maxRecDepth 20000 in
theorem mw_586 : Jvm.Cond.instanceMethod ({ cls := "PeelRibbons$Leaves", name := "barsAny", desc := "(II)Z" } : Jvm.MethodName) ∈ gG := gG_of (List.mem_of_getElem? (i := 611) rfl) rfl
set_option maxRecDepth 20000 in
theorem mw_587 : Jvm.Cond.selects "PeelRibbons$Leaves" ({ cls := "PeelRibbons$Leaves", name := "barsAny", desc := "(II)Z" } : Jvm.MethodName) ({ cls := "PeelRibbons$Leaves", name := "barsAny", desc := "(II)Z" } : Jvm.MethodName) ∈ gG := gG_of (List.mem_of_getElem? (i := 612) rfl) rfl
set_option maxRecDepth 20000 in
theorem mw_597 : Jvm.Cond.methodLink "PeelRibbons" (179 : Nat) ({ cls := "PeelRibbons$Clipping", name := "cut", desc := "(LPeelRibbons$Ribbon;LPeelRibbons$Faults;LPeelRibbons$Leaves;I)V" } : Jvm.MethodName) ∈ gG := gG_of (List.mem_of_getElem? (i := 622) rfl) rfl
set_option maxRecDepth 20000 in
theorem mw_598 : Jvm.Cond.instanceMethod ({ cls := "PeelRibbons$Clipping", name := "cut", desc := "(LPeelRibbons$Ribbon;LPeelRibbons$Faults;LPeelRibbons$Leaves;I)V" } : Jvm.MethodName) ∈ gG := gG_of (List.mem_of_getElem? (i := 623) rfl) rfl
set_option maxRecDepth 20000 in
theorem mw_599 : Jvm.Cond.selects "PeelRibbons$Clipping" ({ cls := "PeelRibbons$Clipping", name := "cut", desc := "(LPeelRibbons$Ribbon;LPeelRibbons$Faults;LPeelRibbons$Leaves;I)V" } : Jvm.MethodName) ({ cls := "PeelRibbons$Clipping", name := "cut", desc := "(LPeelRibbons$Ribbon;LPeelRibbons$Faults;LPeelRibbons$Leaves;I)V" } : Jvm.MethodName) ∈ gG := gG_of (List.mem_of_getElem? (i := 624) rfl) rfl
set_option maxRecDepth 20000 in
theorem mw_601 : Jvm.Cond.methodLink "PeelRibbons$Clipping" (47 : Nat) ({ cls := "java/lang/Math", name := "max", desc := "(II)I" } : Jvm.MethodName) ∈ gG := gG_of (List.mem_of_getElem? (i := 626) rfl) rfl
set_option maxRecDepth 20000 in
theorem mw_602 : Jvm.Cond.methodLink "PeelRibbons$Clipping" (53 : Nat) ({ cls := "PeelRibbons$Ribbon", name := "length", desc := "()I" } : Jvm.MethodName) ∈ gG := gG_of (List.mem_of_getElem? (i := 627) rfl) rfl
set_option maxRecDepth 20000 in
theorem mw_603 : Jvm.Cond.instanceMethod ({ cls := "PeelRibbons$Ribbon", name := "length", desc := "()I" } : Jvm.MethodName) ∈ gG := gG_of (List.mem_of_getElem? (i := 628) rfl) rfl
set_option maxRecDepth 20000 in
theorem mw_604 : Jvm.Cond.selects "PeelRibbons$Ribbon" ({ cls := "PeelRibbons$Ribbon", name := "length", desc := "()I" } : Jvm.MethodName) ({ cls := "PeelRibbons$Ribbon", name := "length", desc := "()I" } : Jvm.MethodName) ∈ gG := gG_of (List.mem_of_getElem? (i := 629) rfl) rfl
set_option maxRecDepth 20000 in
theorem mw_606 : Jvm.Cond.methodLink "PeelRibbons$Clipping" (59 : Nat) ({ cls := "java/lang/Math", name := "min", desc := "(II)I" } : Jvm.MethodName) ∈ gG := gG_of (List.mem_of_getElem? (i := 631) rfl) rfl
set_option maxRecDepth 20000 in
theorem mw_607 : Jvm.Cond.methodLink "PeelRibbons$Clipping" (62 : Nat) ({ cls := "PeelRibbons$Clipping", name := "markFaults", desc := "(LPeelRibbons$Ribbon;LPeelRibbons$Faults;I)V" } : Jvm.MethodName) ∈ gG := gG_of (List.mem_of_getElem? (i := 632) rfl) rfl
set_option maxRecDepth 20000 in
theorem mw_609 : Jvm.Cond.instanceMethod ({ cls := "PeelRibbons$Clipping", name := "markFaults", desc := "(LPeelRibbons$Ribbon;LPeelRibbons$Faults;I)V" } : Jvm.MethodName) ∈ gG := gG_of (List.mem_of_getElem? (i := 634) rfl) rfl
set_option maxRecDepth 20000 in
theorem mw_611 : Jvm.Cond.methodLink "PeelRibbons$Clipping" (73 : Nat) ({ cls := "PeelRibbons$Faults", name := "count", desc := "()I" } : Jvm.MethodName) ∈ gG := gG_of (List.mem_of_getElem? (i := 636) rfl) rfl
set_option maxRecDepth 20000 in
theorem mw_612 : Jvm.Cond.instanceMethod ({ cls := "PeelRibbons$Faults", name := "count", desc := "()I" } : Jvm.MethodName) ∈ gG := gG_of (List.mem_of_getElem? (i := 637) rfl) rfl
set_option maxRecDepth 20000 in
theorem mw_613 : Jvm.Cond.selects "PeelRibbons$Faults" ({ cls := "PeelRibbons$Faults", name := "count", desc := "()I" } : Jvm.MethodName) ({ cls := "PeelRibbons$Faults", name := "count", desc := "()I" } : Jvm.MethodName) ∈ gG := gG_of (List.mem_of_getElem? (i := 638) rfl) rfl
set_option maxRecDepth 20000 in
theorem mw_615 : Jvm.Cond.methodLink "PeelRibbons$Clipping" (77 : Nat) ({ cls := "PeelRibbons$Faults", name := "placeIn", desc := "(LPeelRibbons$Ribbon;I)I" } : Jvm.MethodName) ∈ gG := gG_of (List.mem_of_getElem? (i := 640) rfl) rfl
set_option maxRecDepth 20000 in
theorem mw_616 : Jvm.Cond.methodLink "PeelRibbons$Clipping" (81 : Nat) ({ cls := "PeelRibbons$Faults", name := "kindBit", desc := "(I)I" } : Jvm.MethodName) ∈ gG := gG_of (List.mem_of_getElem? (i := 641) rfl) rfl
set_option maxRecDepth 20000 in
theorem mw_617 : Jvm.Cond.instanceMethod ({ cls := "PeelRibbons$Faults", name := "kindBit", desc := "(I)I" } : Jvm.MethodName) ∈ gG := gG_of (List.mem_of_getElem? (i := 642) rfl) rfl
set_option maxRecDepth 20000 in
theorem mw_618 : Jvm.Cond.selects "PeelRibbons$Faults" ({ cls := "PeelRibbons$Faults", name := "kindBit", desc := "(I)I" } : Jvm.MethodName) ({ cls := "PeelRibbons$Faults", name := "kindBit", desc := "(I)I" } : Jvm.MethodName) ∈ gG := gG_of (List.mem_of_getElem? (i := 643) rfl) rfl
set_option maxRecDepth 20000 in
theorem mw_620 : Jvm.Cond.methodLink "PeelRibbons$Clipping" (66 : Nat) ({ cls := "PeelRibbons$Clipping", name := "chooseFromTheEnd", desc := "(LPeelRibbons$Leaves;)V" } : Jvm.MethodName) ∈ gG := gG_of (List.mem_of_getElem? (i := 645) rfl) rfl
set_option maxRecDepth 20000 in
theorem mw_622 : Jvm.Cond.instanceMethod ({ cls := "PeelRibbons$Clipping", name := "chooseFromTheEnd", desc := "(LPeelRibbons$Leaves;)V" } : Jvm.MethodName) ∈ gG := gG_of (List.mem_of_getElem? (i := 647) rfl) rfl
set_option maxRecDepth 20000 in
theorem mw_624 : Jvm.Cond.methodLink "PeelRibbons$Clipping" (85 : Nat) ({ cls := "PeelRibbons$Leaves", name := "count", desc := "()I" } : Jvm.MethodName) ∈ gG := gG_of (List.mem_of_getElem? (i := 649) rfl) rfl
set_option maxRecDepth 20000 in
theorem mw_625 : Jvm.Cond.instanceMethod ({ cls := "PeelRibbons$Leaves", name := "count", desc := "()I" } : Jvm.MethodName) ∈ gG := gG_of (List.mem_of_getElem? (i := 650) rfl) rfl
set_option maxRecDepth 20000 in
theorem mw_626 : Jvm.Cond.selects "PeelRibbons$Leaves" ({ cls := "PeelRibbons$Leaves", name := "count", desc := "()I" } : Jvm.MethodName) ({ cls := "PeelRibbons$Leaves", name := "count", desc := "()I" } : Jvm.MethodName) ∈ gG := gG_of (List.mem_of_getElem? (i := 651) rfl) rfl
set_option maxRecDepth 20000 in
theorem mw_628 : Jvm.Cond.methodLink "PeelRibbons$Clipping" (86 : Nat) ({ cls := "PeelRibbons$Clipping", name := "chooseAt", desc := "(ILPeelRibbons$Leaves;)V" } : Jvm.MethodName) ∈ gG := gG_of (List.mem_of_getElem? (i := 653) rfl) rfl
set_option maxRecDepth 20000 in
theorem mw_630 : Jvm.Cond.instanceMethod ({ cls := "PeelRibbons$Clipping", name := "chooseAt", desc := "(ILPeelRibbons$Leaves;)V" } : Jvm.MethodName) ∈ gG := gG_of (List.mem_of_getElem? (i := 655) rfl) rfl
set_option maxRecDepth 20000 in
theorem mw_632 : Jvm.Cond.methodLink "PeelRibbons$Clipping" (90 : Nat) ({ cls := "PeelRibbons$Leaves", name := "barsAny", desc := "(II)Z" } : Jvm.MethodName) ∈ gG := gG_of (List.mem_of_getElem? (i := 657) rfl) rfl
set_option maxRecDepth 20000 in
theorem mw_633 : Jvm.Cond.methodLink "PeelRibbons$Clipping" (94 : Nat) ({ cls := "PeelRibbons$Leaves", name := "width", desc := "(I)I" } : Jvm.MethodName) ∈ gG := gG_of (List.mem_of_getElem? (i := 658) rfl) rfl
set_option maxRecDepth 20000 in
theorem mw_634 : Jvm.Cond.instanceMethod ({ cls := "PeelRibbons$Leaves", name := "width", desc := "(I)I" } : Jvm.MethodName) ∈ gG := gG_of (List.mem_of_getElem? (i := 659) rfl) rfl
set_option maxRecDepth 20000 in
theorem mw_635 : Jvm.Cond.selects "PeelRibbons$Leaves" ({ cls := "PeelRibbons$Leaves", name := "width", desc := "(I)I" } : Jvm.MethodName) ({ cls := "PeelRibbons$Leaves", name := "width", desc := "(I)I" } : Jvm.MethodName) ∈ gG := gG_of (List.mem_of_getElem? (i := 660) rfl) rfl
set_option maxRecDepth 20000 in
theorem mw_637 : Jvm.Cond.methodLink "PeelRibbons$Clipping" (97 : Nat) ({ cls := "PeelRibbons$Leaves", name := "worth", desc := "(I)I" } : Jvm.MethodName) ∈ gG := gG_of (List.mem_of_getElem? (i := 662) rfl) rfl
set_option maxRecDepth 20000 in
theorem mw_638 : Jvm.Cond.instanceMethod ({ cls := "PeelRibbons$Leaves", name := "worth", desc := "(I)I" } : Jvm.MethodName) ∈ gG := gG_of (List.mem_of_getElem? (i := 663) rfl) rfl
set_option maxRecDepth 20000 in
theorem mw_639 : Jvm.Cond.selects "PeelRibbons$Leaves" ({ cls := "PeelRibbons$Leaves", name := "worth", desc := "(I)I" } : Jvm.MethodName) ({ cls := "PeelRibbons$Leaves", name := "worth", desc := "(I)I" } : Jvm.MethodName) ∈ gG := gG_of (List.mem_of_getElem? (i := 664) rfl) rfl
set_option maxRecDepth 20000 in
theorem mw_641 : Jvm.Cond.constantLong "PeelRibbons$Clipping" (99 : Nat) (2001 : Int64) ∈ gG := gG_of (List.mem_of_getElem? (i := 666) rfl) rfl
set_option maxRecDepth 20000 in
theorem mw_642 : Jvm.Cond.methodLink "PeelRibbons$Clipping" (101 : Nat) ({ cls := "PeelRibbons$Clipping", name := "tryLeaf", desc := "(IIJ)V" } : Jvm.MethodName) ∈ gG := gG_of (List.mem_of_getElem? (i := 667) rfl) rfl
set_option maxRecDepth 20000 in
theorem mw_644 : Jvm.Cond.instanceMethod ({ cls := "PeelRibbons$Clipping", name := "tryLeaf", desc := "(IIJ)V" } : Jvm.MethodName) ∈ gG := gG_of (List.mem_of_getElem? (i := 669) rfl) rfl
set_option maxRecDepth 20000 in
theorem mw_646 : Jvm.Cond.methodLink "PeelRibbons$Clipping" (70 : Nat) ({ cls := "PeelRibbons$Clipping", name := "listFromTheBegin", desc := "(LPeelRibbons$Leaves;)V" } : Jvm.MethodName) ∈ gG := gG_of (List.mem_of_getElem? (i := 671) rfl) rfl
set_option maxRecDepth 20000 in
theorem mw_648 : Jvm.Cond.instanceMethod ({ cls := "PeelRibbons$Clipping", name := "listFromTheBegin", desc := "(LPeelRibbons$Leaves;)V" } : Jvm.MethodName) ∈ gG := gG_of (List.mem_of_getElem? (i := 673) rfl) rfl
set_option maxRecDepth 20000 in
theorem mw_650 : Jvm.Cond.methodLink "PeelRibbons" (183 : Nat) ({ cls := "PeelRibbons$Clipping", name := "count", desc := "()I" } : Jvm.MethodName) ∈ gG := gG_of (List.mem_of_getElem? (i := 675) rfl) rfl
set_option maxRecDepth 20000 in
theorem mw_651 : Jvm.Cond.instanceMethod ({ cls := "PeelRibbons$Clipping", name := "count", desc := "()I" } : Jvm.MethodName) ∈ gG := gG_of (List.mem_of_getElem? (i := 676) rfl) rfl
set_option maxRecDepth 20000 in
theorem mw_652 : Jvm.Cond.selects "PeelRibbons$Clipping" ({ cls := "PeelRibbons$Clipping", name := "count", desc := "()I" } : Jvm.MethodName) ({ cls := "PeelRibbons$Clipping", name := "count", desc := "()I" } : Jvm.MethodName) ∈ gG := gG_of (List.mem_of_getElem? (i := 677) rfl) rfl
set_option maxRecDepth 20000 in
theorem mw_661 : Jvm.Cond.methodLink "PeelRibbons" (186 : Nat) ({ cls := "PeelRibbons$Clipping", name := "isDone", desc := "()Z" } : Jvm.MethodName) ∈ gG := gG_of (List.mem_of_getElem? (i := 686) rfl) rfl
set_option maxRecDepth 20000 in
theorem mw_662 : Jvm.Cond.instanceMethod ({ cls := "PeelRibbons$Clipping", name := "isDone", desc := "()Z" } : Jvm.MethodName) ∈ gG := gG_of (List.mem_of_getElem? (i := 687) rfl) rfl
set_option maxRecDepth 20000 in
theorem mw_663 : Jvm.Cond.selects "PeelRibbons$Clipping" ({ cls := "PeelRibbons$Clipping", name := "isDone", desc := "()Z" } : Jvm.MethodName) ({ cls := "PeelRibbons$Clipping", name := "isDone", desc := "()Z" } : Jvm.MethodName) ∈ gG := gG_of (List.mem_of_getElem? (i := 688) rfl) rfl
set_option maxRecDepth 20000 in
theorem mw_667 : Jvm.Cond.methodLink "PeelRibbons" (193 : Nat) ({ cls := "PeelRibbons$Clipping", name := "leafOf", desc := "(I)I" } : Jvm.MethodName) ∈ gG := gG_of (List.mem_of_getElem? (i := 692) rfl) rfl
set_option maxRecDepth 20000 in
theorem mw_668 : Jvm.Cond.instanceMethod ({ cls := "PeelRibbons$Clipping", name := "leafOf", desc := "(I)I" } : Jvm.MethodName) ∈ gG := gG_of (List.mem_of_getElem? (i := 693) rfl) rfl
set_option maxRecDepth 20000 in
theorem mw_669 : Jvm.Cond.selects "PeelRibbons$Clipping" ({ cls := "PeelRibbons$Clipping", name := "leafOf", desc := "(I)I" } : Jvm.MethodName) ({ cls := "PeelRibbons$Clipping", name := "leafOf", desc := "(I)I" } : Jvm.MethodName) ∈ gG := gG_of (List.mem_of_getElem? (i := 694) rfl) rfl
set_option maxRecDepth 20000 in
theorem mw_671 : Jvm.Cond.methodLink "PeelRibbons" (196 : Nat) ({ cls := "PeelRibbons$Clipping", name := "firstStepOf", desc := "(I)I" } : Jvm.MethodName) ∈ gG := gG_of (List.mem_of_getElem? (i := 696) rfl) rfl
set_option maxRecDepth 20000 in
theorem mw_672 : Jvm.Cond.instanceMethod ({ cls := "PeelRibbons$Clipping", name := "firstStepOf", desc := "(I)I" } : Jvm.MethodName) ∈ gG := gG_of (List.mem_of_getElem? (i := 697) rfl) rfl
set_option maxRecDepth 20000 in
theorem mw_673 : Jvm.Cond.selects "PeelRibbons$Clipping" ({ cls := "PeelRibbons$Clipping", name := "firstStepOf", desc := "(I)I" } : Jvm.MethodName) ({ cls := "PeelRibbons$Clipping", name := "firstStepOf", desc := "(I)I" } : Jvm.MethodName) ∈ gG := gG_of (List.mem_of_getElem? (i := 698) rfl) rfl
set_option maxRecDepth 20000 in
theorem mw_683 : Jvm.Cond.methodLink "PeelRibbons" (201 : Nat) ({ cls := "PeelRibbons$Clipping", name := "worth", desc := "()I" } : Jvm.MethodName) ∈ gG := gG_of (List.mem_of_getElem? (i := 708) rfl) rfl
set_option maxRecDepth 20000 in
theorem mw_684 : Jvm.Cond.instanceMethod ({ cls := "PeelRibbons$Clipping", name := "worth", desc := "()I" } : Jvm.MethodName) ∈ gG := gG_of (List.mem_of_getElem? (i := 709) rfl) rfl
set_option maxRecDepth 20000 in
theorem mw_685 : Jvm.Cond.selects "PeelRibbons$Clipping" ({ cls := "PeelRibbons$Clipping", name := "worth", desc := "()I" } : Jvm.MethodName) ({ cls := "PeelRibbons$Clipping", name := "worth", desc := "()I" } : Jvm.MethodName) ∈ gG := gG_of (List.mem_of_getElem? (i := 710) rfl) rfl
set_option maxRecDepth 20000 in
theorem mw_687 : Jvm.Cond.methodLink "PeelRibbons" (204 : Nat) ({ cls := "PeelRibbons$Clipping", name := "waste", desc := "()I" } : Jvm.MethodName) ∈ gG := gG_of (List.mem_of_getElem? (i := 712) rfl) rfl
set_option maxRecDepth 20000 in
theorem mw_688 : Jvm.Cond.instanceMethod ({ cls := "PeelRibbons$Clipping", name := "waste", desc := "()I" } : Jvm.MethodName) ∈ gG := gG_of (List.mem_of_getElem? (i := 713) rfl) rfl
set_option maxRecDepth 20000 in
theorem mw_689 : Jvm.Cond.selects "PeelRibbons$Clipping" ({ cls := "PeelRibbons$Clipping", name := "waste", desc := "()I" } : Jvm.MethodName) ({ cls := "PeelRibbons$Clipping", name := "waste", desc := "()I" } : Jvm.MethodName) ∈ gG := gG_of (List.mem_of_getElem? (i := 714) rfl) rfl
set_option maxRecDepth 20000 in
theorem mw_691 : Jvm.Cond.methodLink "PeelRibbons" (207 : Nat) ({ cls := "PeelRibbons$Clipping", name := "steps", desc := "()I" } : Jvm.MethodName) ∈ gG := gG_of (List.mem_of_getElem? (i := 716) rfl) rfl
set_option maxRecDepth 20000 in
theorem mw_692 : Jvm.Cond.instanceMethod ({ cls := "PeelRibbons$Clipping", name := "steps", desc := "()I" } : Jvm.MethodName) ∈ gG := gG_of (List.mem_of_getElem? (i := 717) rfl) rfl
set_option maxRecDepth 20000 in
theorem mw_693 : Jvm.Cond.selects "PeelRibbons$Clipping" ({ cls := "PeelRibbons$Clipping", name := "steps", desc := "()I" } : Jvm.MethodName) ({ cls := "PeelRibbons$Clipping", name := "steps", desc := "()I" } : Jvm.MethodName) ∈ gG := gG_of (List.mem_of_getElem? (i := 718) rfl) rfl
set_option maxRecDepth 20000 in
theorem mw_704 : Jvm.Cond.methodLink "PeelRibbons" (214 : Nat) ({ cls := "PeelRibbons$Leaves", name := "width", desc := "(I)I" } : Jvm.MethodName) ∈ gG := gG_of (List.mem_of_getElem? (i := 729) rfl) rfl
set_option maxRecDepth 20000 in
theorem mw_712 : Jvm.Cond.methodLink "PeelRibbons" (217 : Nat) ({ cls := "PeelRibbons$KnifeRows", name := "isBelowLast", desc := "(I)Z" } : Jvm.MethodName) ∈ gG := gG_of (List.mem_of_getElem? (i := 737) rfl) rfl
set_option maxRecDepth 20000 in
theorem mw_713 : Jvm.Cond.instanceMethod ({ cls := "PeelRibbons$KnifeRows", name := "isBelowLast", desc := "(I)Z" } : Jvm.MethodName) ∈ gG := gG_of (List.mem_of_getElem? (i := 738) rfl) rfl
set_option maxRecDepth 20000 in
theorem mw_714 : Jvm.Cond.selects "PeelRibbons$KnifeRows" ({ cls := "PeelRibbons$KnifeRows", name := "isBelowLast", desc := "(I)Z" } : Jvm.MethodName) ({ cls := "PeelRibbons$KnifeRows", name := "isBelowLast", desc := "(I)Z" } : Jvm.MethodName) ∈ gG := gG_of (List.mem_of_getElem? (i := 739) rfl) rfl
set_option maxRecDepth 20000 in
theorem mw_717 : Jvm.Cond.methodLink "PeelRibbons" (222 : Nat) ({ cls := "PeelRibbons$KnifeRows", name := "add", desc := "(II)Z" } : Jvm.MethodName) ∈ gG := gG_of (List.mem_of_getElem? (i := 742) rfl) rfl
set_option maxRecDepth 20000 in
theorem mw_718 : Jvm.Cond.instanceMethod ({ cls := "PeelRibbons$KnifeRows", name := "add", desc := "(II)Z" } : Jvm.MethodName) ∈ gG := gG_of (List.mem_of_getElem? (i := 743) rfl) rfl
set_option maxRecDepth 20000 in
theorem mw_719 : Jvm.Cond.selects "PeelRibbons$KnifeRows" ({ cls := "PeelRibbons$KnifeRows", name := "add", desc := "(II)Z" } : Jvm.MethodName) ({ cls := "PeelRibbons$KnifeRows", name := "add", desc := "(II)Z" } : Jvm.MethodName) ∈ gG := gG_of (List.mem_of_getElem? (i := 744) rfl) rfl
set_option maxRecDepth 20000 in
theorem mw_729 : Jvm.Cond.methodLink "PeelRibbons" (226 : Nat) ({ cls := "PeelRibbons$KnifeRows", name := "answerAt", desc := "(I)I" } : Jvm.MethodName) ∈ gG := gG_of (List.mem_of_getElem? (i := 754) rfl) rfl
set_option maxRecDepth 20000 in
theorem mw_730 : Jvm.Cond.instanceMethod ({ cls := "PeelRibbons$KnifeRows", name := "answerAt", desc := "(I)I" } : Jvm.MethodName) ∈ gG := gG_of (List.mem_of_getElem? (i := 755) rfl) rfl
set_option maxRecDepth 20000 in
theorem mw_731 : Jvm.Cond.selects "PeelRibbons$KnifeRows" ({ cls := "PeelRibbons$KnifeRows", name := "answerAt", desc := "(I)I" } : Jvm.MethodName) ({ cls := "PeelRibbons$KnifeRows", name := "answerAt", desc := "(I)I" } : Jvm.MethodName) ∈ gG := gG_of (List.mem_of_getElem? (i := 756) rfl) rfl
set_option maxRecDepth 20000 in
theorem mw_739 : Jvm.Cond.fieldLink "PeelRibbonsModel" (70 : Nat) "PeelRibbonsModel" "thrown" "I" ∈ gG := gG_of (List.mem_of_getElem? (i := 764) rfl) rfl
set_option maxRecDepth 20000 in
theorem mw_740 : Jvm.Cond.fieldLink "PeelRibbonsModel" (60 : Nat) "PeelRibbonsModel" "slices" "I" ∈ gG := gG_of (List.mem_of_getElem? (i := 765) rfl) rfl
set_option maxRecDepth 20000 in
theorem mw_741 : Jvm.Cond.fieldLink "PeelRibbonsModel" (64 : Nat) "PeelRibbonsModel" "side" "I" ∈ gG := gG_of (List.mem_of_getElem? (i := 766) rfl) rfl
set_option maxRecDepth 20000 in
theorem mw_742 : Jvm.Cond.fieldLink "PeelRibbonsModel" (67 : Nat) "PeelRibbonsModel" "parts" "I" ∈ gG := gG_of (List.mem_of_getElem? (i := 767) rfl) rfl
set_option maxRecDepth 20000 in
theorem mw_743 : Jvm.Cond.fieldLink "PeelRibbonsModel" (7 : Nat) "PeelRibbonsModel" "in" "[Z" ∈ gG := gG_of (List.mem_of_getElem? (i := 768) rfl) rfl
set_option maxRecDepth 20000 in
theorem mw_744 : Jvm.Cond.fieldLink "PeelRibbonsModel" (13 : Nat) "PeelRibbonsModel" "squares" "[I" ∈ gG := gG_of (List.mem_of_getElem? (i := 769) rfl) rfl
set_option maxRecDepth 20000 in
theorem mw_745 : Jvm.Cond.fieldLink "PeelRibbonsModel" (77 : Nat) "PeelRibbonsModel" "known" "Z" ∈ gG := gG_of (List.mem_of_getElem? (i := 770) rfl) rfl
set_option maxRecDepth 20000 in
theorem mw_746 : Jvm.Cond.fieldLink "PeelRibbonsModel" (99 : Nat) "PeelRibbonsModel" "room" "I" ∈ gG := gG_of (List.mem_of_getElem? (i := 771) rfl) rfl
set_option maxRecDepth 20000 in
theorem mw_747 : Jvm.Cond.fieldLink "PeelRibbonsModel" (17 : Nat) "PeelRibbonsModel" "axis" "[I" ∈ gG := gG_of (List.mem_of_getElem? (i := 772) rfl) rfl
set_option maxRecDepth 20000 in
theorem mw_748 : Jvm.Cond.fieldLink "PeelRibbonsModel" (81 : Nat) "PeelRibbonsModel" "peeled" "Z" ∈ gG := gG_of (List.mem_of_getElem? (i := 773) rfl) rfl
set_option maxRecDepth 20000 in
theorem mw_749 : Jvm.Cond.fieldLink "PeelRibbonsModel" (115 : Nat) "PeelRibbonsModel" "thick" "I" ∈ gG := gG_of (List.mem_of_getElem? (i := 774) rfl) rfl
set_option maxRecDepth 20000 in
theorem mw_750 : Jvm.Cond.fieldLink "PeelRibbonsModel" (118 : Nat) "PeelRibbonsModel" "turns" "I" ∈ gG := gG_of (List.mem_of_getElem? (i := 775) rfl) rfl
set_option maxRecDepth 20000 in
theorem mw_751 : Jvm.Cond.fieldLink "PeelRibbonsModel" (113 : Nat) "PeelRibbonsModel" "radius" "I" ∈ gG := gG_of (List.mem_of_getElem? (i := 776) rfl) rfl
set_option maxRecDepth 20000 in
theorem mw_752 : Jvm.Cond.fieldLink "PeelRibbonsModel" (20 : Nat) "PeelRibbonsModel" "angles" "[I" ∈ gG := gG_of (List.mem_of_getElem? (i := 777) rfl) rfl
set_option maxRecDepth 20000 in
theorem mw_753 : Jvm.Cond.fieldLink "PeelRibbonsModel" (23 : Nat) "PeelRibbonsModel" "radii" "[I" ∈ gG := gG_of (List.mem_of_getElem? (i := 778) rfl) rfl
set_option maxRecDepth 20000 in
theorem mw_754 : Jvm.Cond.fieldLink "PeelRibbonsModel" (26 : Nat) "PeelRibbonsModel" "kinds" "[I" ∈ gG := gG_of (List.mem_of_getElem? (i := 779) rfl) rfl
set_option maxRecDepth 20000 in
theorem mw_755 : Jvm.Cond.fieldLink "PeelRibbonsModel" (125 : Nat) "PeelRibbonsModel" "faults" "I" ∈ gG := gG_of (List.mem_of_getElem? (i := 780) rfl) rfl
set_option maxRecDepth 20000 in
theorem mw_756 : Jvm.Cond.fieldLink "PeelRibbonsModel" (29 : Nat) "PeelRibbonsModel" "widths" "[I" ∈ gG := gG_of (List.mem_of_getElem? (i := 781) rfl) rfl
set_option maxRecDepth 20000 in
theorem mw_757 : Jvm.Cond.fieldLink "PeelRibbonsModel" (32 : Nat) "PeelRibbonsModel" "worths" "[I" ∈ gG := gG_of (List.mem_of_getElem? (i := 782) rfl) rfl
set_option maxRecDepth 20000 in
theorem mw_758 : Jvm.Cond.fieldLink "PeelRibbonsModel" (35 : Nat) "PeelRibbonsModel" "barred" "[I" ∈ gG := gG_of (List.mem_of_getElem? (i := 783) rfl) rfl
set_option maxRecDepth 20000 in
theorem mw_759 : Jvm.Cond.fieldLink "PeelRibbonsModel" (131 : Nat) "PeelRibbonsModel" "leaves" "I" ∈ gG := gG_of (List.mem_of_getElem? (i := 784) rfl) rfl
set_option maxRecDepth 20000 in
theorem mw_760 : Jvm.Cond.fieldLink "PeelRibbonsModel" (84 : Nat) "PeelRibbonsModel" "clipped" "Z" ∈ gG := gG_of (List.mem_of_getElem? (i := 785) rfl) rfl
set_option maxRecDepth 20000 in
theorem mw_761 : Jvm.Cond.fieldLink "PeelRibbonsModel" (134 : Nat) "PeelRibbonsModel" "steps" "I" ∈ gG := gG_of (List.mem_of_getElem? (i := 786) rfl) rfl
set_option maxRecDepth 20000 in
theorem mw_762 : Jvm.Cond.fieldLink "PeelRibbonsModel" (38 : Nat) "PeelRibbonsModel" "marks" "[I" ∈ gG := gG_of (List.mem_of_getElem? (i := 787) rfl) rfl
set_option maxRecDepth 20000 in
theorem mw_763 : Jvm.Cond.fieldLink "PeelRibbonsModel" (41 : Nat) "PeelRibbonsModel" "best" "[J" ∈ gG := gG_of (List.mem_of_getElem? (i := 788) rfl) rfl
set_option maxRecDepth 20000 in
theorem mw_764 : Jvm.Cond.fieldLink "PeelRibbonsModel" (45 : Nat) "PeelRibbonsModel" "waste" "[I" ∈ gG := gG_of (List.mem_of_getElem? (i := 789) rfl) rfl
set_option maxRecDepth 20000 in
theorem mw_765 : Jvm.Cond.fieldLink "PeelRibbonsModel" (48 : Nat) "PeelRibbonsModel" "chosen" "[I" ∈ gG := gG_of (List.mem_of_getElem? (i := 790) rfl) rfl
set_option maxRecDepth 20000 in
theorem mw_766 : Jvm.Cond.fieldLink "PeelRibbonsModel" (51 : Nat) "PeelRibbonsModel" "begins" "[I" ∈ gG := gG_of (List.mem_of_getElem? (i := 791) rfl) rfl
set_option maxRecDepth 20000 in
theorem mw_767 : Jvm.Cond.fieldLink "PeelRibbonsModel" (143 : Nat) "PeelRibbonsModel" "many" "I" ∈ gG := gG_of (List.mem_of_getElem? (i := 792) rfl) rfl
set_option maxRecDepth 20000 in
theorem mw_768 : Jvm.Cond.fieldLink "PeelRibbonsModel" (54 : Nat) "PeelRibbonsModel" "knifeRadii" "[I" ∈ gG := gG_of (List.mem_of_getElem? (i := 793) rfl) rfl
set_option maxRecDepth 20000 in
theorem mw_769 : Jvm.Cond.fieldLink "PeelRibbonsModel" (57 : Nat) "PeelRibbonsModel" "knifeAngles" "[I" ∈ gG := gG_of (List.mem_of_getElem? (i := 794) rfl) rfl
set_option maxRecDepth 20000 in
theorem mw_770 : Jvm.Cond.fieldLink "PeelRibbonsModel" (146 : Nat) "PeelRibbonsModel" "rows" "I" ∈ gG := gG_of (List.mem_of_getElem? (i := 795) rfl) rfl
set_option maxRecDepth 20000 in
theorem mw_844 : Jvm.Cond.methodLink "PeelRibbonsModel" (73 : Nat) ({ cls := "PeelRibbonsModel", name := "isIn", desc := "(III)Z" } : Jvm.MethodName) ∈ gG := gG_of (List.mem_of_getElem? (i := 869) rfl) rfl
set_option maxRecDepth 20000 in
theorem mw_845 : Jvm.Cond.static ({ cls := "PeelRibbonsModel", name := "isIn", desc := "(III)Z" } : Jvm.MethodName) ∈ gG := gG_of (List.mem_of_getElem? (i := 870) rfl) rfl
set_option maxRecDepth 20000 in
theorem mw_851 : Jvm.Cond.methodLink "PeelRibbonsModel" (106 : Nat) ({ cls := "PeelRibbonsModel", name := "know", desc := "()V" } : Jvm.MethodName) ∈ gG := gG_of (List.mem_of_getElem? (i := 876) rfl) rfl
set_option maxRecDepth 20000 in
theorem mw_853 : Jvm.Cond.instanceMethod ({ cls := "PeelRibbonsModel", name := "know", desc := "()V" } : Jvm.MethodName) ∈ gG := gG_of (List.mem_of_getElem? (i := 878) rfl) rfl
set_option maxRecDepth 20000 in
theorem mw_855 : Jvm.Cond.methodLink "PeelRibbonsModel" (96 : Nat) ({ cls := "PeelRibbonsModel", name := "square", desc := "(III)I" } : Jvm.MethodName) ∈ gG := gG_of (List.mem_of_getElem? (i := 880) rfl) rfl
set_option maxRecDepth 20000 in
theorem mw_857 : Jvm.Cond.instanceMethod ({ cls := "PeelRibbonsModel", name := "square", desc := "(III)I" } : Jvm.MethodName) ∈ gG := gG_of (List.mem_of_getElem? (i := 882) rfl) rfl
set_option maxRecDepth 20000 in
theorem mw_859 : Jvm.Cond.methodLink "PeelRibbonsModel" (87 : Nat) ({ cls := "PeelRibbonsModel", name := "less", desc := "(II)I" } : Jvm.MethodName) ∈ gG := gG_of (List.mem_of_getElem? (i := 884) rfl) rfl
set_option maxRecDepth 20000 in
theorem mw_860 : Jvm.Cond.static ({ cls := "PeelRibbonsModel", name := "less", desc := "(II)I" } : Jvm.MethodName) ∈ gG := gG_of (List.mem_of_getElem? (i := 885) rfl) rfl
set_option maxRecDepth 20000 in
theorem mw_862 : Jvm.Cond.methodLink "PeelRibbonsModel" (91 : Nat) ({ cls := "PeelRibbonsModel", name := "off", desc := "(III)I" } : Jvm.MethodName) ∈ gG := gG_of (List.mem_of_getElem? (i := 887) rfl) rfl
set_option maxRecDepth 20000 in
theorem mw_863 : Jvm.Cond.static ({ cls := "PeelRibbonsModel", name := "off", desc := "(III)I" } : Jvm.MethodName) ∈ gG := gG_of (List.mem_of_getElem? (i := 888) rfl) rfl
set_option maxRecDepth 20000 in
theorem mw_865 : Jvm.Cond.methodLink "PeelRibbonsModel" (102 : Nat) ({ cls := "PeelRibbonsModel", name := "roomAt", desc := "(IIII)I" } : Jvm.MethodName) ∈ gG := gG_of (List.mem_of_getElem? (i := 890) rfl) rfl
set_option maxRecDepth 20000 in
theorem mw_867 : Jvm.Cond.instanceMethod ({ cls := "PeelRibbonsModel", name := "roomAt", desc := "(IIII)I" } : Jvm.MethodName) ∈ gG := gG_of (List.mem_of_getElem? (i := 892) rfl) rfl
set_option maxRecDepth 20000 in
theorem mw_869 : Jvm.Cond.constant "PeelRibbonsModel" (95 : Nat) (1000000 : Int32) ∈ gG := gG_of (List.mem_of_getElem? (i := 894) rfl) rfl
set_option maxRecDepth 20000 in
theorem mw_875 : Jvm.Cond.instanceMethod ({ cls := "PeelRibbonsModel", name := "radius", desc := "()I" } : Jvm.MethodName) ∈ gG := gG_of (List.mem_of_getElem? (i := 900) rfl) rfl
set_option maxRecDepth 20000 in
theorem mw_876 : Jvm.Cond.selects "PeelRibbonsModel" ({ cls := "PeelRibbonsModel", name := "radius", desc := "()I" } : Jvm.MethodName) ({ cls := "PeelRibbonsModel", name := "radius", desc := "()I" } : Jvm.MethodName) ∈ gG := gG_of (List.mem_of_getElem? (i := 901) rfl) rfl
set_option maxRecDepth 20000 in
theorem mw_886 : Jvm.Cond.methodLink "PeelRibbonsModel" (109 : Nat) ({ cls := "PeelRibbonsModel", name := "radius", desc := "()I" } : Jvm.MethodName) ∈ gG := gG_of (List.mem_of_getElem? (i := 911) rfl) rfl
set_option maxRecDepth 20000 in
theorem mw_891 : Jvm.Cond.methodLink "PeelRibbonsModel" (121 : Nat) ({ cls := "PeelRibbonsModel", name := "beforeTurn", desc := "(I)I" } : Jvm.MethodName) ∈ gG := gG_of (List.mem_of_getElem? (i := 916) rfl) rfl
set_option maxRecDepth 20000 in
theorem mw_893 : Jvm.Cond.instanceMethod ({ cls := "PeelRibbonsModel", name := "beforeTurn", desc := "(I)I" } : Jvm.MethodName) ∈ gG := gG_of (List.mem_of_getElem? (i := 918) rfl) rfl
set_option maxRecDepth 20000 in
theorem mw_903 : Jvm.Cond.methodLink "PeelRibbonsModel" (128 : Nat) ({ cls := "PeelRibbonsModel", name := "placeOf", desc := "(I)I" } : Jvm.MethodName) ∈ gG := gG_of (List.mem_of_getElem? (i := 928) rfl) rfl
set_option maxRecDepth 20000 in
theorem mw_905 : Jvm.Cond.instanceMethod ({ cls := "PeelRibbonsModel", name := "placeOf", desc := "(I)I" } : Jvm.MethodName) ∈ gG := gG_of (List.mem_of_getElem? (i := 930) rfl) rfl
set_option maxRecDepth 20000 in
theorem mw_919 : Jvm.Cond.methodLink "PeelRibbonsModel" (137 : Nat) ({ cls := "PeelRibbonsModel", name := "fits", desc := "(II)Z" } : Jvm.MethodName) ∈ gG := gG_of (List.mem_of_getElem? (i := 944) rfl) rfl
set_option maxRecDepth 20000 in
theorem mw_921 : Jvm.Cond.instanceMethod ({ cls := "PeelRibbonsModel", name := "fits", desc := "(II)Z" } : Jvm.MethodName) ∈ gG := gG_of (List.mem_of_getElem? (i := 946) rfl) rfl
set_option maxRecDepth 20000 in
theorem mw_923 : Jvm.Cond.methodLink "PeelRibbonsModel" (141 : Nat) ({ cls := "PeelRibbonsModel", name := "side", desc := "(II)I" } : Jvm.MethodName) ∈ gG := gG_of (List.mem_of_getElem? (i := 948) rfl) rfl
set_option maxRecDepth 20000 in
theorem mw_925 : Jvm.Cond.instanceMethod ({ cls := "PeelRibbonsModel", name := "side", desc := "(II)I" } : Jvm.MethodName) ∈ gG := gG_of (List.mem_of_getElem? (i := 950) rfl) rfl
theorem mc_260 : Cond.constant "PeelRibbons$Slices" 65 (iI 2147483647) ∈ gG := by
  rw [show iI 2147483647 = (2147483647 : Int32) from by decide]
  exact mw_260
theorem mc_293 : Cond.constant "PeelRibbons$Axes" 44 (iI 2147483647) ∈ gG := by
  rw [show iI 2147483647 = (2147483647 : Int32) from by decide]
  exact mw_293
theorem mc_557 : Cond.constant "PeelRibbons" 161 (iI 1000000) ∈ gG := by
  rw [show iI 1000000 = (1000000 : Int32) from by decide]
  exact mw_557
theorem mc_641 : Cond.constantLong "PeelRibbons$Clipping" 99 (lI 2001) ∈ gG := by
  rw [show lI 2001 = (2001 : Int64) from by decide]
  exact mw_641
theorem mc_869 : Cond.constant "PeelRibbonsModel" 95 (iI 1000000) ∈ gG := by
  rw [show iI 1000000 = (1000000 : Int32) from by decide]
  exact mw_869
set_option maxRecDepth 20000 in
theorem mk_max : Cond.code Lib.Math.max.name Lib.Math.max.code 2 (some .int) ∈ gG := gG_of (List.mem_of_getElem? (i := 60) rfl) rfl
set_option maxRecDepth 20000 in
theorem mk_min : Cond.code Lib.Math.min.name Lib.Math.min.code 2 (some .int) ∈ gG := gG_of (List.mem_of_getElem? (i := 57) rfl) rfl
set_option maxRecDepth 20000 in
theorem ps_0 : Cond.selects "PeelRibbons$Axes" ⟨"PeelRibbons$Axes", "seekIfStale", "()V"⟩ ⟨"PeelRibbons$Axes", "seekIfStale", "()V"⟩ ∈ gG := gG_of (List.mem_of_getElem? (i := 0) rfl) rfl
set_option maxRecDepth 20000 in
theorem ps_1 : Cond.selects "PeelRibbons$Axes" ⟨"PeelRibbons$Axes", "seek", "()V"⟩ ⟨"PeelRibbons$Axes", "seek", "()V"⟩ ∈ gG := gG_of (List.mem_of_getElem? (i := 1) rfl) rfl
set_option maxRecDepth 20000 in
theorem ps_2 : Cond.selects "PeelRibbons$Axes" ⟨"PeelRibbons$Axes", "keep", "(IIIII)V"⟩ ⟨"PeelRibbons$Axes", "keep", "(IIIII)V"⟩ ∈ gG := gG_of (List.mem_of_getElem? (i := 2) rfl) rfl
set_option maxRecDepth 20000 in
theorem ps_3 : Cond.selects "PeelRibbons$Slices" ⟨"PeelRibbons$Slices", "measure", "(I)V"⟩ ⟨"PeelRibbons$Slices", "measure", "(I)V"⟩ ∈ gG := gG_of (List.mem_of_getElem? (i := 3) rfl) rfl
set_option maxRecDepth 20000 in
theorem ps_4 : Cond.selects "PeelRibbons$Slices" ⟨"PeelRibbons$Slices", "nearestInColumnOf", "(III)I"⟩ ⟨"PeelRibbons$Slices", "nearestInColumnOf", "(III)I"⟩ ∈ gG := gG_of (List.mem_of_getElem? (i := 4) rfl) rfl
set_option maxRecDepth 20000 in
theorem ps_5 : Cond.selects "PeelRibbons$Slices" ⟨"PeelRibbons$Slices", "isIn", "(III)Z"⟩ ⟨"PeelRibbons$Slices", "isIn", "(III)Z"⟩ ∈ gG := gG_of (List.mem_of_getElem? (i := 5) rfl) rfl
set_option maxRecDepth 20000 in
theorem ps_6 : Cond.selects "PeelRibbons$Slices" ⟨"PeelRibbons$Slices", "indexOf", "(III)I"⟩ ⟨"PeelRibbons$Slices", "indexOf", "(III)I"⟩ ∈ gG := gG_of (List.mem_of_getElem? (i := 6) rfl) rfl
set_option maxRecDepth 20000 in
theorem ps_7 : Cond.selects "PeelRibbons$Slices" ⟨"PeelRibbons$Slices", "gap", "(II)I"⟩ ⟨"PeelRibbons$Slices", "gap", "(II)I"⟩ ∈ gG := gG_of (List.mem_of_getElem? (i := 7) rfl) rfl
set_option maxRecDepth 20000 in
theorem ps_8 : Cond.selects "PeelRibbons$Slices" ⟨"PeelRibbons$Slices", "nearestOverColumns", "(I)I"⟩ ⟨"PeelRibbons$Slices", "nearestOverColumns", "(I)I"⟩ ∈ gG := gG_of (List.mem_of_getElem? (i := 8) rfl) rfl
set_option maxRecDepth 20000 in
theorem ps_9 : Cond.selects "PeelRibbons$Axes" ⟨"PeelRibbons$Axes", "seekFrom", "(II)V"⟩ ⟨"PeelRibbons$Axes", "seekFrom", "(II)V"⟩ ∈ gG := gG_of (List.mem_of_getElem? (i := 9) rfl) rfl
set_option maxRecDepth 20000 in
theorem ps_10 : Cond.selects "PeelRibbons$Axes" ⟨"PeelRibbons$Axes", "roomAbove", "(IIIII)I"⟩ ⟨"PeelRibbons$Axes", "roomAbove", "(IIIII)I"⟩ ∈ gG := gG_of (List.mem_of_getElem? (i := 10) rfl) rfl
set_option maxRecDepth 20000 in
theorem ps_11 : Cond.selects "PeelRibbons$Axes" ⟨"PeelRibbons$Axes", "placeAt", "(III)I"⟩ ⟨"PeelRibbons$Axes", "placeAt", "(III)I"⟩ ∈ gG := gG_of (List.mem_of_getElem? (i := 11) rfl) rfl
set_option maxRecDepth 20000 in
theorem ps_13 : Cond.selects "PeelRibbons$Clipping" ⟨"PeelRibbons$Clipping", "markFaults", "(LPeelRibbons$Ribbon;LPeelRibbons$Faults;I)V"⟩ ⟨"PeelRibbons$Clipping", "markFaults", "(LPeelRibbons$Ribbon;LPeelRibbons$Faults;I)V"⟩ ∈ gG := gG_of (List.mem_of_getElem? (i := 13) rfl) rfl
set_option maxRecDepth 20000 in
theorem ps_14 : Cond.selects "PeelRibbons$Clipping" ⟨"PeelRibbons$Clipping", "chooseFromTheEnd", "(LPeelRibbons$Leaves;)V"⟩ ⟨"PeelRibbons$Clipping", "chooseFromTheEnd", "(LPeelRibbons$Leaves;)V"⟩ ∈ gG := gG_of (List.mem_of_getElem? (i := 14) rfl) rfl
set_option maxRecDepth 20000 in
theorem ps_15 : Cond.selects "PeelRibbons$Clipping" ⟨"PeelRibbons$Clipping", "chooseAt", "(ILPeelRibbons$Leaves;)V"⟩ ⟨"PeelRibbons$Clipping", "chooseAt", "(ILPeelRibbons$Leaves;)V"⟩ ∈ gG := gG_of (List.mem_of_getElem? (i := 15) rfl) rfl
set_option maxRecDepth 20000 in
theorem ps_16 : Cond.selects "PeelRibbons$Clipping" ⟨"PeelRibbons$Clipping", "tryLeaf", "(IIJ)V"⟩ ⟨"PeelRibbons$Clipping", "tryLeaf", "(IIJ)V"⟩ ∈ gG := gG_of (List.mem_of_getElem? (i := 16) rfl) rfl
set_option maxRecDepth 20000 in
theorem ps_17 : Cond.selects "PeelRibbons$Clipping" ⟨"PeelRibbons$Clipping", "listFromTheBegin", "(LPeelRibbons$Leaves;)V"⟩ ⟨"PeelRibbons$Clipping", "listFromTheBegin", "(LPeelRibbons$Leaves;)V"⟩ ∈ gG := gG_of (List.mem_of_getElem? (i := 17) rfl) rfl
set_option maxRecDepth 20000 in
theorem ps_18 : Cond.selects "PeelRibbonsModel" ⟨"PeelRibbonsModel", "know", "()V"⟩ ⟨"PeelRibbonsModel", "know", "()V"⟩ ∈ gG := gG_of (List.mem_of_getElem? (i := 18) rfl) rfl
set_option maxRecDepth 20000 in
theorem ps_19 : Cond.selects "PeelRibbonsModel" ⟨"PeelRibbonsModel", "square", "(III)I"⟩ ⟨"PeelRibbonsModel", "square", "(III)I"⟩ ∈ gG := gG_of (List.mem_of_getElem? (i := 19) rfl) rfl
set_option maxRecDepth 20000 in
theorem ps_20 : Cond.selects "PeelRibbonsModel" ⟨"PeelRibbonsModel", "roomAt", "(IIII)I"⟩ ⟨"PeelRibbonsModel", "roomAt", "(IIII)I"⟩ ∈ gG := gG_of (List.mem_of_getElem? (i := 20) rfl) rfl
set_option maxRecDepth 20000 in
theorem ps_21 : Cond.selects "PeelRibbonsModel" ⟨"PeelRibbonsModel", "beforeTurn", "(I)I"⟩ ⟨"PeelRibbonsModel", "beforeTurn", "(I)I"⟩ ∈ gG := gG_of (List.mem_of_getElem? (i := 21) rfl) rfl
set_option maxRecDepth 20000 in
theorem ps_22 : Cond.selects "PeelRibbonsModel" ⟨"PeelRibbonsModel", "placeOf", "(I)I"⟩ ⟨"PeelRibbonsModel", "placeOf", "(I)I"⟩ ∈ gG := gG_of (List.mem_of_getElem? (i := 22) rfl) rfl
set_option maxRecDepth 20000 in
theorem ps_23 : Cond.selects "PeelRibbonsModel" ⟨"PeelRibbonsModel", "fits", "(II)Z"⟩ ⟨"PeelRibbonsModel", "fits", "(II)Z"⟩ ∈ gG := gG_of (List.mem_of_getElem? (i := 23) rfl) rfl
set_option maxRecDepth 20000 in
theorem ps_24 : Cond.selects "PeelRibbonsModel" ⟨"PeelRibbonsModel", "side", "(II)I"⟩ ⟨"PeelRibbonsModel", "side", "(II)I"⟩ ∈ gG := gG_of (List.mem_of_getElem? (i := 24) rfl) rfl
def nsG : List (String × Nat × MethodName × String) := [("PeelRibbons", 33, ⟨"PeelRibbons$Ribbon", "<init>", "()V"⟩, "PeelRibbons"), ("PeelRibbons", 40, ⟨"PeelRibbons$Faults", "<init>", "()V"⟩, "PeelRibbons"), ("PeelRibbons", 47, ⟨"PeelRibbons$Leaves", "<init>", "()V"⟩, "PeelRibbons"), ("PeelRibbons", 54, ⟨"PeelRibbons$Clipping", "<init>", "()V"⟩, "PeelRibbons"), ("PeelRibbons", 61, ⟨"PeelRibbons$KnifeRows", "<init>", "()V"⟩, "PeelRibbons"), ("PeelRibbons$Slices", 42, ⟨"PeelRibbons", "isWithin", "(III)Z"⟩, "PeelRibbons"), ("PeelRibbons$Faults", 23, ⟨"PeelRibbons", "isWithin", "(III)Z"⟩, "PeelRibbons"), ("PeelRibbons$Leaves", 23, ⟨"PeelRibbons", "isWithin", "(III)Z"⟩, "PeelRibbons")]
