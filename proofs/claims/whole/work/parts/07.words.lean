theorem gV {cx cy : Cond} {own C : String} {idx : Nat} {y : MethodName} (h1 : Cond.methodLink own idx y ∈ gG) (h2 : Cond.instanceMethod y ∈ gG) (h3 : Cond.selects C y y ∈ gG) (h4 : Cond.initialized C ∈ gG) (hc : cy ∈ gG) : GoodIn (cx :: gG) (wsV own idx C y (cy :: gG)) := by
  have key : ∀ w ∈ wsV own idx C y (cy :: gG), w ∈ gG := by
    intro w hw
    unfold wsV at hw
    simp only [List.cons_append, List.nil_append, List.mem_cons] at hw
    rcases hw with rfl | rfl | rfl | rfl | rfl | hw
    · exact h1
    · exact h2
    · exact h3
    · exact h4
    · exact hc
    · exact hw
  exact fun w hw => ⟨gG_in (key w hw), good_of_word (List.mem_filter.mp (key w hw)).2⟩
theorem gS {cx cy : Cond} {own : String} {idx : Nat} {y : MethodName} (h1 : Cond.methodLink own idx y ∈ gG) (h2 : Cond.static y ∈ gG) (h4 : Cond.initialized own ∈ gG) (hc : cy ∈ gG) : GoodIn (cx :: gG) (wsS own idx y (cy :: gG)) := by
  have key : ∀ w ∈ wsS own idx y (cy :: gG), w ∈ gG := by
    intro w hw
    unfold wsS at hw
    simp only [List.cons_append, List.nil_append, List.mem_cons] at hw
    rcases hw with rfl | rfl | rfl | rfl | hw
    · exact h1
    · exact h2
    · exact h4
    · exact hc
    · exact hw
  exact fun w hw => ⟨gG_in (key w hw), good_of_word (List.mem_filter.mp (key w hw)).2⟩
set_option maxRecDepth 20000 in
theorem mw_1 : Jvm.Cond.initialized "PeelRibbons" ∈ gG := gG_of (List.mem_of_getElem? (i := 25) rfl) rfl
set_option maxRecDepth 20000 in
theorem mw_2 : Jvm.Cond.initialized "PeelRibbons$Slices" ∈ gG := gG_of (List.mem_of_getElem? (i := 26) rfl) rfl
set_option maxRecDepth 20000 in
theorem mw_3 : Jvm.Cond.initialized "java/lang/Math" ∈ gG := gG_of (List.mem_of_getElem? (i := 27) rfl) rfl
set_option maxRecDepth 20000 in
theorem mw_4 : Jvm.Cond.initialized "PeelRibbons$Axes" ∈ gG := gG_of (List.mem_of_getElem? (i := 28) rfl) rfl
set_option maxRecDepth 20000 in
theorem mw_5 : Jvm.Cond.initialized "PeelRibbons$Ribbon" ∈ gG := gG_of (List.mem_of_getElem? (i := 29) rfl) rfl
set_option maxRecDepth 20000 in
theorem mw_6 : Jvm.Cond.initialized "PeelRibbons$Faults" ∈ gG := gG_of (List.mem_of_getElem? (i := 30) rfl) rfl
set_option maxRecDepth 20000 in
theorem mw_7 : Jvm.Cond.initialized "PeelRibbons$Leaves" ∈ gG := gG_of (List.mem_of_getElem? (i := 31) rfl) rfl
set_option maxRecDepth 20000 in
theorem mw_8 : Jvm.Cond.initialized "PeelRibbons$Clipping" ∈ gG := gG_of (List.mem_of_getElem? (i := 32) rfl) rfl
set_option maxRecDepth 20000 in
theorem mw_9 : Jvm.Cond.initialized "PeelRibbons$KnifeRows" ∈ gG := gG_of (List.mem_of_getElem? (i := 33) rfl) rfl
set_option maxRecDepth 20000 in
theorem mw_10 : Jvm.Cond.initialized "PeelRibbonsModel" ∈ gG := gG_of (List.mem_of_getElem? (i := 34) rfl) rfl
set_option maxRecDepth 20000 in
theorem mw_30 : Jvm.Cond.methodLink "PeelRibbons" (229 : Nat) ({ cls := "java/lang/Math", name := "min", desc := "(II)I" } : Jvm.MethodName) ∈ gG := gG_of (List.mem_of_getElem? (i := 54) rfl) rfl
set_option maxRecDepth 20000 in
theorem mw_31 : Jvm.Cond.static ({ cls := "java/lang/Math", name := "min", desc := "(II)I" } : Jvm.MethodName) ∈ gG := gG_of (List.mem_of_getElem? (i := 55) rfl) rfl
set_option maxRecDepth 20000 in
theorem mw_33 : Jvm.Cond.methodLink "PeelRibbons" (234 : Nat) ({ cls := "java/lang/Math", name := "max", desc := "(II)I" } : Jvm.MethodName) ∈ gG := gG_of (List.mem_of_getElem? (i := 57) rfl) rfl
set_option maxRecDepth 20000 in
theorem mw_34 : Jvm.Cond.static ({ cls := "java/lang/Math", name := "max", desc := "(II)I" } : Jvm.MethodName) ∈ gG := gG_of (List.mem_of_getElem? (i := 58) rfl) rfl
set_option maxRecDepth 20000 in
theorem mw_41 : Jvm.Cond.fieldLink "PeelRibbons$Slices" (7 : Nat) "PeelRibbons$Slices" "count" "I" ∈ gG := gG_of (List.mem_of_getElem? (i := 65) rfl) rfl
set_option maxRecDepth 20000 in
theorem mw_42 : Jvm.Cond.fieldLink "PeelRibbons$Slices" (13 : Nat) "PeelRibbons$Slices" "side" "I" ∈ gG := gG_of (List.mem_of_getElem? (i := 66) rfl) rfl
set_option maxRecDepth 20000 in
theorem mw_43 : Jvm.Cond.fieldLink "PeelRibbons$Slices" (22 : Nat) "PeelRibbons$Slices" "parts" "I" ∈ gG := gG_of (List.mem_of_getElem? (i := 67) rfl) rfl
set_option maxRecDepth 20000 in
theorem mw_44 : Jvm.Cond.fieldLink "PeelRibbons$Slices" (25 : Nat) "PeelRibbons$Slices" "reach" "I" ∈ gG := gG_of (List.mem_of_getElem? (i := 68) rfl) rfl
set_option maxRecDepth 20000 in
theorem mw_45 : Jvm.Cond.fieldLink "PeelRibbons$Slices" (28 : Nat) "PeelRibbons$Slices" "span" "I" ∈ gG := gG_of (List.mem_of_getElem? (i := 69) rfl) rfl
set_option maxRecDepth 20000 in
theorem mw_46 : Jvm.Cond.fieldLink "PeelRibbons$Slices" (31 : Nat) "PeelRibbons$Slices" "in" "[Z" ∈ gG := gG_of (List.mem_of_getElem? (i := 70) rfl) rfl
set_option maxRecDepth 20000 in
theorem mw_47 : Jvm.Cond.fieldLink "PeelRibbons$Slices" (35 : Nat) "PeelRibbons$Slices" "nearest" "[I" ∈ gG := gG_of (List.mem_of_getElem? (i := 71) rfl) rfl
set_option maxRecDepth 20000 in
theorem mw_48 : Jvm.Cond.fieldLink "PeelRibbons$Slices" (39 : Nat) "PeelRibbons$Slices" "isStale" "[Z" ∈ gG := gG_of (List.mem_of_getElem? (i := 72) rfl) rfl
set_option maxRecDepth 20000 in
theorem mw_49 : Jvm.Cond.fieldLink "PeelRibbons$Slices" (42 : Nat) "PeelRibbons$Slices" "nearestInColumn" "[I" ∈ gG := gG_of (List.mem_of_getElem? (i := 73) rfl) rfl
set_option maxRecDepth 20000 in
theorem mw_85 : Jvm.Cond.fieldLink "PeelRibbons$Axes" (17 : Nat) "PeelRibbons$Axes" "slices" "LPeelRibbons$Slices;" ∈ gG := gG_of (List.mem_of_getElem? (i := 109) rfl) rfl
set_option maxRecDepth 20000 in
theorem mw_86 : Jvm.Cond.fieldLink "PeelRibbons$Axes" (27 : Nat) "PeelRibbons$Axes" "side" "I" ∈ gG := gG_of (List.mem_of_getElem? (i := 110) rfl) rfl
set_option maxRecDepth 20000 in
theorem mw_87 : Jvm.Cond.fieldLink "PeelRibbons$Axes" (33 : Nat) "PeelRibbons$Axes" "parts" "I" ∈ gG := gG_of (List.mem_of_getElem? (i := 111) rfl) rfl
set_option maxRecDepth 20000 in
theorem mw_88 : Jvm.Cond.fieldLink "PeelRibbons$Axes" (7 : Nat) "PeelRibbons$Axes" "numbers" "[I" ∈ gG := gG_of (List.mem_of_getElem? (i := 112) rfl) rfl
set_option maxRecDepth 20000 in
theorem mw_89 : Jvm.Cond.fieldLink "PeelRibbons$Axes" (38 : Nat) "PeelRibbons$Axes" "room" "I" ∈ gG := gG_of (List.mem_of_getElem? (i := 113) rfl) rfl
set_option maxRecDepth 20000 in
theorem mw_90 : Jvm.Cond.fieldLink "PeelRibbons$Axes" (13 : Nat) "PeelRibbons$Axes" "isStale" "Z" ∈ gG := gG_of (List.mem_of_getElem? (i := 114) rfl) rfl
set_option maxRecDepth 20000 in
theorem mw_110 : Jvm.Cond.fieldLink "PeelRibbons$Ribbon" (27 : Nat) "PeelRibbons$Ribbon" "isPeeled" "Z" ∈ gG := gG_of (List.mem_of_getElem? (i := 134) rfl) rfl
set_option maxRecDepth 20000 in
theorem mw_111 : Jvm.Cond.fieldLink "PeelRibbons$Ribbon" (15 : Nat) "PeelRibbons$Ribbon" "radius" "I" ∈ gG := gG_of (List.mem_of_getElem? (i := 135) rfl) rfl
set_option maxRecDepth 20000 in
theorem mw_112 : Jvm.Cond.fieldLink "PeelRibbons$Ribbon" (9 : Nat) "PeelRibbons$Ribbon" "thick" "I" ∈ gG := gG_of (List.mem_of_getElem? (i := 136) rfl) rfl
set_option maxRecDepth 20000 in
theorem mw_113 : Jvm.Cond.fieldLink "PeelRibbons$Ribbon" (24 : Nat) "PeelRibbons$Ribbon" "turns" "I" ∈ gG := gG_of (List.mem_of_getElem? (i := 137) rfl) rfl
set_option maxRecDepth 20000 in
theorem mw_129 : Jvm.Cond.fieldLink "PeelRibbons$Faults" (9 : Nat) "PeelRibbons$Faults" "angles" "[I" ∈ gG := gG_of (List.mem_of_getElem? (i := 153) rfl) rfl
set_option maxRecDepth 20000 in
theorem mw_130 : Jvm.Cond.fieldLink "PeelRibbons$Faults" (13 : Nat) "PeelRibbons$Faults" "radii" "[I" ∈ gG := gG_of (List.mem_of_getElem? (i := 154) rfl) rfl
set_option maxRecDepth 20000 in
theorem mw_131 : Jvm.Cond.fieldLink "PeelRibbons$Faults" (16 : Nat) "PeelRibbons$Faults" "kinds" "[I" ∈ gG := gG_of (List.mem_of_getElem? (i := 155) rfl) rfl
set_option maxRecDepth 20000 in
theorem mw_132 : Jvm.Cond.fieldLink "PeelRibbons$Faults" (19 : Nat) "PeelRibbons$Faults" "count" "I" ∈ gG := gG_of (List.mem_of_getElem? (i := 156) rfl) rfl
set_option maxRecDepth 20000 in
theorem mw_148 : Jvm.Cond.fieldLink "PeelRibbons$Leaves" (9 : Nat) "PeelRibbons$Leaves" "widths" "[I" ∈ gG := gG_of (List.mem_of_getElem? (i := 172) rfl) rfl
set_option maxRecDepth 20000 in
theorem mw_149 : Jvm.Cond.fieldLink "PeelRibbons$Leaves" (13 : Nat) "PeelRibbons$Leaves" "worths" "[I" ∈ gG := gG_of (List.mem_of_getElem? (i := 173) rfl) rfl
set_option maxRecDepth 20000 in
theorem mw_150 : Jvm.Cond.fieldLink "PeelRibbons$Leaves" (16 : Nat) "PeelRibbons$Leaves" "barredBits" "[I" ∈ gG := gG_of (List.mem_of_getElem? (i := 174) rfl) rfl
set_option maxRecDepth 20000 in
theorem mw_151 : Jvm.Cond.fieldLink "PeelRibbons$Leaves" (19 : Nat) "PeelRibbons$Leaves" "count" "I" ∈ gG := gG_of (List.mem_of_getElem? (i := 175) rfl) rfl
set_option maxRecDepth 20000 in
theorem mw_167 : Jvm.Cond.fieldLink "PeelRibbons$Clipping" (11 : Nat) "PeelRibbons$Clipping" "kindBitsAt" "[I" ∈ gG := gG_of (List.mem_of_getElem? (i := 191) rfl) rfl
set_option maxRecDepth 20000 in
theorem mw_168 : Jvm.Cond.fieldLink "PeelRibbons$Clipping" (15 : Nat) "PeelRibbons$Clipping" "bestFrom" "[J" ∈ gG := gG_of (List.mem_of_getElem? (i := 192) rfl) rfl
set_option maxRecDepth 20000 in
theorem mw_169 : Jvm.Cond.fieldLink "PeelRibbons$Clipping" (19 : Nat) "PeelRibbons$Clipping" "choiceAt" "[I" ∈ gG := gG_of (List.mem_of_getElem? (i := 193) rfl) rfl
set_option maxRecDepth 20000 in
theorem mw_170 : Jvm.Cond.fieldLink "PeelRibbons$Clipping" (22 : Nat) "PeelRibbons$Clipping" "firstSteps" "[I" ∈ gG := gG_of (List.mem_of_getElem? (i := 194) rfl) rfl
set_option maxRecDepth 20000 in
theorem mw_171 : Jvm.Cond.fieldLink "PeelRibbons$Clipping" (27 : Nat) "PeelRibbons$Clipping" "clearUntil" "[I" ∈ gG := gG_of (List.mem_of_getElem? (i := 195) rfl) rfl
set_option maxRecDepth 20000 in
theorem mw_172 : Jvm.Cond.fieldLink "PeelRibbons$Clipping" (30 : Nat) "PeelRibbons$Clipping" "isDone" "Z" ∈ gG := gG_of (List.mem_of_getElem? (i := 196) rfl) rfl
set_option maxRecDepth 20000 in
theorem mw_173 : Jvm.Cond.fieldLink "PeelRibbons$Clipping" (44 : Nat) "PeelRibbons$Clipping" "steps" "I" ∈ gG := gG_of (List.mem_of_getElem? (i := 197) rfl) rfl
set_option maxRecDepth 20000 in
theorem mw_174 : Jvm.Cond.fieldLink "PeelRibbons$Clipping" (34 : Nat) "PeelRibbons$Clipping" "count" "I" ∈ gG := gG_of (List.mem_of_getElem? (i := 198) rfl) rfl
set_option maxRecDepth 20000 in
theorem mw_175 : Jvm.Cond.fieldLink "PeelRibbons$Clipping" (38 : Nat) "PeelRibbons$Clipping" "worth" "I" ∈ gG := gG_of (List.mem_of_getElem? (i := 199) rfl) rfl
set_option maxRecDepth 20000 in
theorem mw_176 : Jvm.Cond.fieldLink "PeelRibbons$Clipping" (41 : Nat) "PeelRibbons$Clipping" "waste" "I" ∈ gG := gG_of (List.mem_of_getElem? (i := 200) rfl) rfl
set_option maxRecDepth 20000 in
theorem mw_205 : Jvm.Cond.fieldLink "PeelRibbons$KnifeRows" (11 : Nat) "PeelRibbons$KnifeRows" "radii" "[I" ∈ gG := gG_of (List.mem_of_getElem? (i := 229) rfl) rfl
set_option maxRecDepth 20000 in
theorem mw_206 : Jvm.Cond.fieldLink "PeelRibbons$KnifeRows" (15 : Nat) "PeelRibbons$KnifeRows" "angles" "[I" ∈ gG := gG_of (List.mem_of_getElem? (i := 230) rfl) rfl
set_option maxRecDepth 20000 in
theorem mw_207 : Jvm.Cond.fieldLink "PeelRibbons$KnifeRows" (18 : Nat) "PeelRibbons$KnifeRows" "count" "I" ∈ gG := gG_of (List.mem_of_getElem? (i := 231) rfl) rfl
set_option maxRecDepth 20000 in
theorem mw_215 : Jvm.Cond.fieldLink "PeelRibbons" (18 : Nat) "PeelRibbons" "slices" "LPeelRibbons$Slices;" ∈ gG := gG_of (List.mem_of_getElem? (i := 239) rfl) rfl
set_option maxRecDepth 20000 in
theorem mw_216 : Jvm.Cond.fieldLink "PeelRibbons" (27 : Nat) "PeelRibbons" "axes" "LPeelRibbons$Axes;" ∈ gG := gG_of (List.mem_of_getElem? (i := 240) rfl) rfl
set_option maxRecDepth 20000 in
theorem mw_217 : Jvm.Cond.fieldLink "PeelRibbons" (34 : Nat) "PeelRibbons" "ribbon" "LPeelRibbons$Ribbon;" ∈ gG := gG_of (List.mem_of_getElem? (i := 241) rfl) rfl
set_option maxRecDepth 20000 in
theorem mw_218 : Jvm.Cond.fieldLink "PeelRibbons" (41 : Nat) "PeelRibbons" "faults" "LPeelRibbons$Faults;" ∈ gG := gG_of (List.mem_of_getElem? (i := 242) rfl) rfl
set_option maxRecDepth 20000 in
theorem mw_219 : Jvm.Cond.fieldLink "PeelRibbons" (48 : Nat) "PeelRibbons" "leaves" "LPeelRibbons$Leaves;" ∈ gG := gG_of (List.mem_of_getElem? (i := 243) rfl) rfl
set_option maxRecDepth 20000 in
theorem mw_220 : Jvm.Cond.fieldLink "PeelRibbons" (55 : Nat) "PeelRibbons" "clipping" "LPeelRibbons$Clipping;" ∈ gG := gG_of (List.mem_of_getElem? (i := 244) rfl) rfl
set_option maxRecDepth 20000 in
theorem mw_221 : Jvm.Cond.fieldLink "PeelRibbons" (62 : Nat) "PeelRibbons" "knifeRows" "LPeelRibbons$KnifeRows;" ∈ gG := gG_of (List.mem_of_getElem? (i := 245) rfl) rfl
set_option maxRecDepth 20000 in
theorem mw_241 : Jvm.Cond.methodLink "PeelRibbons" (86 : Nat) ({ cls := "PeelRibbons$Axes", name := "greatestRoom", desc := "()I" } : Jvm.MethodName) ∈ gG := gG_of (List.mem_of_getElem? (i := 265) rfl) rfl
set_option maxRecDepth 20000 in
theorem mw_242 : Jvm.Cond.instanceMethod ({ cls := "PeelRibbons$Axes", name := "greatestRoom", desc := "()I" } : Jvm.MethodName) ∈ gG := gG_of (List.mem_of_getElem? (i := 266) rfl) rfl
set_option maxRecDepth 20000 in
theorem mw_243 : Jvm.Cond.selects "PeelRibbons$Axes" ({ cls := "PeelRibbons$Axes", name := "greatestRoom", desc := "()I" } : Jvm.MethodName) ({ cls := "PeelRibbons$Axes", name := "greatestRoom", desc := "()I" } : Jvm.MethodName) ∈ gG := gG_of (List.mem_of_getElem? (i := 267) rfl) rfl
set_option maxRecDepth 20000 in
theorem mw_245 : Jvm.Cond.methodLink "PeelRibbons$Axes" (35 : Nat) ({ cls := "PeelRibbons$Axes", name := "seekIfStale", desc := "()V" } : Jvm.MethodName) ∈ gG := gG_of (List.mem_of_getElem? (i := 269) rfl) rfl
set_option maxRecDepth 20000 in
theorem mw_247 : Jvm.Cond.instanceMethod ({ cls := "PeelRibbons$Axes", name := "seekIfStale", desc := "()V" } : Jvm.MethodName) ∈ gG := gG_of (List.mem_of_getElem? (i := 271) rfl) rfl
set_option maxRecDepth 20000 in
theorem mw_249 : Jvm.Cond.methodLink "PeelRibbons$Axes" (45 : Nat) ({ cls := "PeelRibbons$Slices", name := "measureWhatChanged", desc := "()V" } : Jvm.MethodName) ∈ gG := gG_of (List.mem_of_getElem? (i := 273) rfl) rfl
set_option maxRecDepth 20000 in
theorem mw_250 : Jvm.Cond.instanceMethod ({ cls := "PeelRibbons$Slices", name := "measureWhatChanged", desc := "()V" } : Jvm.MethodName) ∈ gG := gG_of (List.mem_of_getElem? (i := 274) rfl) rfl
set_option maxRecDepth 20000 in
theorem mw_251 : Jvm.Cond.selects "PeelRibbons$Slices" ({ cls := "PeelRibbons$Slices", name := "measureWhatChanged", desc := "()V" } : Jvm.MethodName) ({ cls := "PeelRibbons$Slices", name := "measureWhatChanged", desc := "()V" } : Jvm.MethodName) ∈ gG := gG_of (List.mem_of_getElem? (i := 275) rfl) rfl
set_option maxRecDepth 20000 in
theorem mw_253 : Jvm.Cond.methodLink "PeelRibbons$Slices" (55 : Nat) ({ cls := "PeelRibbons$Slices", name := "measure", desc := "(I)V" } : Jvm.MethodName) ∈ gG := gG_of (List.mem_of_getElem? (i := 277) rfl) rfl
set_option maxRecDepth 20000 in
theorem mw_255 : Jvm.Cond.instanceMethod ({ cls := "PeelRibbons$Slices", name := "measure", desc := "(I)V" } : Jvm.MethodName) ∈ gG := gG_of (List.mem_of_getElem? (i := 279) rfl) rfl
set_option maxRecDepth 20000 in
theorem mw_257 : Jvm.Cond.methodLink "PeelRibbons$Slices" (59 : Nat) ({ cls := "PeelRibbons$Slices", name := "nearestInColumnOf", desc := "(III)I" } : Jvm.MethodName) ∈ gG := gG_of (List.mem_of_getElem? (i := 281) rfl) rfl
set_option maxRecDepth 20000 in
theorem mw_259 : Jvm.Cond.instanceMethod ({ cls := "PeelRibbons$Slices", name := "nearestInColumnOf", desc := "(III)I" } : Jvm.MethodName) ∈ gG := gG_of (List.mem_of_getElem? (i := 283) rfl) rfl
set_option maxRecDepth 20000 in
theorem mw_261 : Jvm.Cond.constant "PeelRibbons$Slices" (68 : Nat) (2147483647 : Int32) ∈ gG := gG_of (List.mem_of_getElem? (i := 285) rfl) rfl
set_option maxRecDepth 20000 in
theorem mw_262 : Jvm.Cond.methodLink "PeelRibbons$Slices" (51 : Nat) ({ cls := "PeelRibbons$Slices", name := "indexOf", desc := "(III)I" } : Jvm.MethodName) ∈ gG := gG_of (List.mem_of_getElem? (i := 286) rfl) rfl
set_option maxRecDepth 20000 in
theorem mw_264 : Jvm.Cond.instanceMethod ({ cls := "PeelRibbons$Slices", name := "indexOf", desc := "(III)I" } : Jvm.MethodName) ∈ gG := gG_of (List.mem_of_getElem? (i := 288) rfl) rfl
set_option maxRecDepth 20000 in
theorem mw_266 : Jvm.Cond.methodLink "PeelRibbons$Slices" (69 : Nat) ({ cls := "PeelRibbons$Slices", name := "gap", desc := "(II)I" } : Jvm.MethodName) ∈ gG := gG_of (List.mem_of_getElem? (i := 290) rfl) rfl
set_option maxRecDepth 20000 in
theorem mw_268 : Jvm.Cond.instanceMethod ({ cls := "PeelRibbons$Slices", name := "gap", desc := "(II)I" } : Jvm.MethodName) ∈ gG := gG_of (List.mem_of_getElem? (i := 292) rfl) rfl
set_option maxRecDepth 20000 in
theorem mw_270 : Jvm.Cond.methodLink "PeelRibbons$Slices" (72 : Nat) ({ cls := "java/lang/Math", name := "min", desc := "(II)I" } : Jvm.MethodName) ∈ gG := gG_of (List.mem_of_getElem? (i := 294) rfl) rfl
set_option maxRecDepth 20000 in
theorem mw_271 : Jvm.Cond.methodLink "PeelRibbons$Slices" (62 : Nat) ({ cls := "PeelRibbons$Slices", name := "nearestOverColumns", desc := "(I)I" } : Jvm.MethodName) ∈ gG := gG_of (List.mem_of_getElem? (i := 295) rfl) rfl
set_option maxRecDepth 20000 in
theorem mw_273 : Jvm.Cond.instanceMethod ({ cls := "PeelRibbons$Slices", name := "nearestOverColumns", desc := "(I)I" } : Jvm.MethodName) ∈ gG := gG_of (List.mem_of_getElem? (i := 297) rfl) rfl
set_option maxRecDepth 20000 in
theorem mw_275 : Jvm.Cond.methodLink "PeelRibbons$Axes" (71 : Nat) ({ cls := "PeelRibbons$Axes", name := "seek", desc := "()V" } : Jvm.MethodName) ∈ gG := gG_of (List.mem_of_getElem? (i := 299) rfl) rfl
set_option maxRecDepth 20000 in
theorem mw_277 : Jvm.Cond.instanceMethod ({ cls := "PeelRibbons$Axes", name := "seek", desc := "()V" } : Jvm.MethodName) ∈ gG := gG_of (List.mem_of_getElem? (i := 301) rfl) rfl
set_option maxRecDepth 20000 in
theorem mw_279 : Jvm.Cond.methodLink "PeelRibbons$Axes" (74 : Nat) ({ cls := "PeelRibbons$Axes", name := "keep", desc := "(IIIII)V" } : Jvm.MethodName) ∈ gG := gG_of (List.mem_of_getElem? (i := 303) rfl) rfl
set_option maxRecDepth 20000 in
theorem mw_281 : Jvm.Cond.instanceMethod ({ cls := "PeelRibbons$Axes", name := "keep", desc := "(IIIII)V" } : Jvm.MethodName) ∈ gG := gG_of (List.mem_of_getElem? (i := 305) rfl) rfl
set_option maxRecDepth 20000 in
theorem mw_283 : Jvm.Cond.methodLink "PeelRibbons$Axes" (62 : Nat) ({ cls := "PeelRibbons$Slices", name := "nearestAt", desc := "(III)I" } : Jvm.MethodName) ∈ gG := gG_of (List.mem_of_getElem? (i := 307) rfl) rfl
set_option maxRecDepth 20000 in
theorem mw_284 : Jvm.Cond.instanceMethod ({ cls := "PeelRibbons$Slices", name := "nearestAt", desc := "(III)I" } : Jvm.MethodName) ∈ gG := gG_of (List.mem_of_getElem? (i := 308) rfl) rfl
set_option maxRecDepth 20000 in
theorem mw_285 : Jvm.Cond.selects "PeelRibbons$Slices" ({ cls := "PeelRibbons$Slices", name := "nearestAt", desc := "(III)I" } : Jvm.MethodName) ({ cls := "PeelRibbons$Slices", name := "nearestAt", desc := "(III)I" } : Jvm.MethodName) ∈ gG := gG_of (List.mem_of_getElem? (i := 309) rfl) rfl
set_option maxRecDepth 20000 in
theorem mw_287 : Jvm.Cond.methodLink "PeelRibbons$Axes" (78 : Nat) ({ cls := "PeelRibbons$Axes", name := "seekFrom", desc := "(II)V" } : Jvm.MethodName) ∈ gG := gG_of (List.mem_of_getElem? (i := 311) rfl) rfl
set_option maxRecDepth 20000 in
theorem mw_289 : Jvm.Cond.instanceMethod ({ cls := "PeelRibbons$Axes", name := "seekFrom", desc := "(II)V" } : Jvm.MethodName) ∈ gG := gG_of (List.mem_of_getElem? (i := 313) rfl) rfl
set_option maxRecDepth 20000 in
theorem mw_291 : Jvm.Cond.methodLink "PeelRibbons$Axes" (48 : Nat) ({ cls := "PeelRibbons$Axes", name := "roomAbove", desc := "(IIIII)I" } : Jvm.MethodName) ∈ gG := gG_of (List.mem_of_getElem? (i := 315) rfl) rfl
set_option maxRecDepth 20000 in
theorem mw_293 : Jvm.Cond.instanceMethod ({ cls := "PeelRibbons$Axes", name := "roomAbove", desc := "(IIIII)I" } : Jvm.MethodName) ∈ gG := gG_of (List.mem_of_getElem? (i := 317) rfl) rfl
set_option maxRecDepth 20000 in
theorem mw_295 : Jvm.Cond.constant "PeelRibbons$Axes" (54 : Nat) (2147483647 : Int32) ∈ gG := gG_of (List.mem_of_getElem? (i := 319) rfl) rfl
set_option maxRecDepth 20000 in
theorem mw_296 : Jvm.Cond.methodLink "PeelRibbons$Axes" (55 : Nat) ({ cls := "PeelRibbons$Slices", name := "count", desc := "()I" } : Jvm.MethodName) ∈ gG := gG_of (List.mem_of_getElem? (i := 320) rfl) rfl
set_option maxRecDepth 20000 in
theorem mw_297 : Jvm.Cond.instanceMethod ({ cls := "PeelRibbons$Slices", name := "count", desc := "()I" } : Jvm.MethodName) ∈ gG := gG_of (List.mem_of_getElem? (i := 321) rfl) rfl
set_option maxRecDepth 20000 in
theorem mw_298 : Jvm.Cond.selects "PeelRibbons$Slices" ({ cls := "PeelRibbons$Slices", name := "count", desc := "()I" } : Jvm.MethodName) ({ cls := "PeelRibbons$Slices", name := "count", desc := "()I" } : Jvm.MethodName) ∈ gG := gG_of (List.mem_of_getElem? (i := 322) rfl) rfl
set_option maxRecDepth 20000 in
theorem mw_300 : Jvm.Cond.methodLink "PeelRibbons$Axes" (58 : Nat) ({ cls := "PeelRibbons$Axes", name := "placeAt", desc := "(III)I" } : Jvm.MethodName) ∈ gG := gG_of (List.mem_of_getElem? (i := 324) rfl) rfl
set_option maxRecDepth 20000 in
theorem mw_302 : Jvm.Cond.instanceMethod ({ cls := "PeelRibbons$Axes", name := "placeAt", desc := "(III)I" } : Jvm.MethodName) ∈ gG := gG_of (List.mem_of_getElem? (i := 326) rfl) rfl
set_option maxRecDepth 20000 in
theorem mw_304 : Jvm.Cond.methodLink "PeelRibbons$Axes" (65 : Nat) ({ cls := "java/lang/Math", name := "min", desc := "(II)I" } : Jvm.MethodName) ∈ gG := gG_of (List.mem_of_getElem? (i := 328) rfl) rfl
set_option maxRecDepth 20000 in
theorem mw_309 : Jvm.Cond.methodLink "PeelRibbons" (99 : Nat) ({ cls := "PeelRibbons$Axes", name := "greatestRadius", desc := "()I" } : Jvm.MethodName) ∈ gG := gG_of (List.mem_of_getElem? (i := 333) rfl) rfl
set_option maxRecDepth 20000 in
theorem mw_310 : Jvm.Cond.instanceMethod ({ cls := "PeelRibbons$Axes", name := "greatestRadius", desc := "()I" } : Jvm.MethodName) ∈ gG := gG_of (List.mem_of_getElem? (i := 334) rfl) rfl
set_option maxRecDepth 20000 in
theorem mw_311 : Jvm.Cond.selects "PeelRibbons$Axes" ({ cls := "PeelRibbons$Axes", name := "greatestRadius", desc := "()I" } : Jvm.MethodName) ({ cls := "PeelRibbons$Axes", name := "greatestRadius", desc := "()I" } : Jvm.MethodName) ∈ gG := gG_of (List.mem_of_getElem? (i := 335) rfl) rfl
set_option maxRecDepth 20000 in
theorem mw_313 : Jvm.Cond.methodLink "PeelRibbons$Axes" (41 : Nat) ({ cls := "PeelRibbons$Axes", name := "rootOf", desc := "(I)I" } : Jvm.MethodName) ∈ gG := gG_of (List.mem_of_getElem? (i := 337) rfl) rfl
set_option maxRecDepth 20000 in
theorem mw_314 : Jvm.Cond.static ({ cls := "PeelRibbons$Axes", name := "rootOf", desc := "(I)I" } : Jvm.MethodName) ∈ gG := gG_of (List.mem_of_getElem? (i := 338) rfl) rfl
set_option maxRecDepth 20000 in
theorem mw_327 : Jvm.Cond.methodLink "PeelRibbons" (66 : Nat) ({ cls := "PeelRibbons$Slices", name := "hasCell", desc := "(III)Z" } : Jvm.MethodName) ∈ gG := gG_of (List.mem_of_getElem? (i := 351) rfl) rfl
set_option maxRecDepth 20000 in
theorem mw_328 : Jvm.Cond.instanceMethod ({ cls := "PeelRibbons$Slices", name := "hasCell", desc := "(III)Z" } : Jvm.MethodName) ∈ gG := gG_of (List.mem_of_getElem? (i := 352) rfl) rfl
set_option maxRecDepth 20000 in
theorem mw_329 : Jvm.Cond.selects "PeelRibbons$Slices" ({ cls := "PeelRibbons$Slices", name := "hasCell", desc := "(III)Z" } : Jvm.MethodName) ({ cls := "PeelRibbons$Slices", name := "hasCell", desc := "(III)Z" } : Jvm.MethodName) ∈ gG := gG_of (List.mem_of_getElem? (i := 353) rfl) rfl
set_option maxRecDepth 20000 in
theorem mw_332 : Jvm.Cond.static ({ cls := "PeelRibbons", name := "isWithin", desc := "(III)Z" } : Jvm.MethodName) ∈ gG := gG_of (List.mem_of_getElem? (i := 356) rfl) rfl
set_option maxRecDepth 20000 in
theorem mw_402 : Jvm.Cond.methodLink "PeelRibbons" (77 : Nat) ({ cls := "PeelRibbons$Slices", name := "tell", desc := "(IIIZ)Z" } : Jvm.MethodName) ∈ gG := gG_of (List.mem_of_getElem? (i := 426) rfl) rfl
set_option maxRecDepth 20000 in
theorem mw_403 : Jvm.Cond.instanceMethod ({ cls := "PeelRibbons$Slices", name := "tell", desc := "(IIIZ)Z" } : Jvm.MethodName) ∈ gG := gG_of (List.mem_of_getElem? (i := 427) rfl) rfl
set_option maxRecDepth 20000 in
theorem mw_404 : Jvm.Cond.selects "PeelRibbons$Slices" ({ cls := "PeelRibbons$Slices", name := "tell", desc := "(IIIZ)Z" } : Jvm.MethodName) ({ cls := "PeelRibbons$Slices", name := "tell", desc := "(IIIZ)Z" } : Jvm.MethodName) ∈ gG := gG_of (List.mem_of_getElem? (i := 428) rfl) rfl
set_option maxRecDepth 20000 in
theorem mw_406 : Jvm.Cond.methodLink "PeelRibbons" (81 : Nat) ({ cls := "PeelRibbons$Axes", name := "forget", desc := "()V" } : Jvm.MethodName) ∈ gG := gG_of (List.mem_of_getElem? (i := 430) rfl) rfl
set_option maxRecDepth 20000 in
theorem mw_407 : Jvm.Cond.instanceMethod ({ cls := "PeelRibbons$Axes", name := "forget", desc := "()V" } : Jvm.MethodName) ∈ gG := gG_of (List.mem_of_getElem? (i := 431) rfl) rfl
set_option maxRecDepth 20000 in
theorem mw_408 : Jvm.Cond.selects "PeelRibbons$Axes" ({ cls := "PeelRibbons$Axes", name := "forget", desc := "()V" } : Jvm.MethodName) ({ cls := "PeelRibbons$Axes", name := "forget", desc := "()V" } : Jvm.MethodName) ∈ gG := gG_of (List.mem_of_getElem? (i := 432) rfl) rfl
set_option maxRecDepth 20000 in
theorem mw_410 : Jvm.Cond.methodLink "PeelRibbons" (84 : Nat) ({ cls := "PeelRibbons$Ribbon", name := "forget", desc := "()V" } : Jvm.MethodName) ∈ gG := gG_of (List.mem_of_getElem? (i := 434) rfl) rfl
set_option maxRecDepth 20000 in
theorem mw_411 : Jvm.Cond.instanceMethod ({ cls := "PeelRibbons$Ribbon", name := "forget", desc := "()V" } : Jvm.MethodName) ∈ gG := gG_of (List.mem_of_getElem? (i := 435) rfl) rfl
set_option maxRecDepth 20000 in
theorem mw_412 : Jvm.Cond.selects "PeelRibbons$Ribbon" ({ cls := "PeelRibbons$Ribbon", name := "forget", desc := "()V" } : Jvm.MethodName) ({ cls := "PeelRibbons$Ribbon", name := "forget", desc := "()V" } : Jvm.MethodName) ∈ gG := gG_of (List.mem_of_getElem? (i := 436) rfl) rfl
set_option maxRecDepth 20000 in
theorem mw_414 : Jvm.Cond.methodLink "PeelRibbons" (85 : Nat) ({ cls := "PeelRibbons$Clipping", name := "forget", desc := "()V" } : Jvm.MethodName) ∈ gG := gG_of (List.mem_of_getElem? (i := 438) rfl) rfl
set_option maxRecDepth 20000 in
theorem mw_415 : Jvm.Cond.instanceMethod ({ cls := "PeelRibbons$Clipping", name := "forget", desc := "()V" } : Jvm.MethodName) ∈ gG := gG_of (List.mem_of_getElem? (i := 439) rfl) rfl
set_option maxRecDepth 20000 in
theorem mw_416 : Jvm.Cond.selects "PeelRibbons$Clipping" ({ cls := "PeelRibbons$Clipping", name := "forget", desc := "()V" } : Jvm.MethodName) ({ cls := "PeelRibbons$Clipping", name := "forget", desc := "()V" } : Jvm.MethodName) ∈ gG := gG_of (List.mem_of_getElem? (i := 440) rfl) rfl
set_option maxRecDepth 20000 in
theorem mw_425 : Jvm.Cond.methodLink "PeelRibbons" (90 : Nat) ({ cls := "PeelRibbons", name := "isWithin", desc := "(III)Z" } : Jvm.MethodName) ∈ gG := gG_of (List.mem_of_getElem? (i := 449) rfl) rfl
set_option maxRecDepth 20000 in
theorem mw_427 : Jvm.Cond.methodLink "PeelRibbons" (95 : Nat) ({ cls := "PeelRibbons$Axes", name := "number", desc := "(I)I" } : Jvm.MethodName) ∈ gG := gG_of (List.mem_of_getElem? (i := 451) rfl) rfl
set_option maxRecDepth 20000 in
theorem mw_428 : Jvm.Cond.instanceMethod ({ cls := "PeelRibbons$Axes", name := "number", desc := "(I)I" } : Jvm.MethodName) ∈ gG := gG_of (List.mem_of_getElem? (i := 452) rfl) rfl
set_option maxRecDepth 20000 in
theorem mw_429 : Jvm.Cond.selects "PeelRibbons$Axes" ({ cls := "PeelRibbons$Axes", name := "number", desc := "(I)I" } : Jvm.MethodName) ({ cls := "PeelRibbons$Axes", name := "number", desc := "(I)I" } : Jvm.MethodName) ∈ gG := gG_of (List.mem_of_getElem? (i := 453) rfl) rfl
set_option maxRecDepth 20000 in
theorem mw_438 : Jvm.Cond.methodLink "PeelRibbons" (102 : Nat) ({ cls := "PeelRibbons$Slices", name := "hasCorner", desc := "(II)Z" } : Jvm.MethodName) ∈ gG := gG_of (List.mem_of_getElem? (i := 462) rfl) rfl
set_option maxRecDepth 20000 in
theorem mw_439 : Jvm.Cond.instanceMethod ({ cls := "PeelRibbons$Slices", name := "hasCorner", desc := "(II)Z" } : Jvm.MethodName) ∈ gG := gG_of (List.mem_of_getElem? (i := 463) rfl) rfl
set_option maxRecDepth 20000 in
theorem mw_440 : Jvm.Cond.selects "PeelRibbons$Slices" ({ cls := "PeelRibbons$Slices", name := "hasCorner", desc := "(II)Z" } : Jvm.MethodName) ({ cls := "PeelRibbons$Slices", name := "hasCorner", desc := "(II)Z" } : Jvm.MethodName) ∈ gG := gG_of (List.mem_of_getElem? (i := 464) rfl) rfl
set_option maxRecDepth 20000 in
theorem mw_443 : Jvm.Cond.methodLink "PeelRibbons" (108 : Nat) ({ cls := "PeelRibbons$Axes", name := "exactRoom", desc := "(IIII)I" } : Jvm.MethodName) ∈ gG := gG_of (List.mem_of_getElem? (i := 467) rfl) rfl
set_option maxRecDepth 20000 in
theorem mw_444 : Jvm.Cond.instanceMethod ({ cls := "PeelRibbons$Axes", name := "exactRoom", desc := "(IIII)I" } : Jvm.MethodName) ∈ gG := gG_of (List.mem_of_getElem? (i := 468) rfl) rfl
set_option maxRecDepth 20000 in
theorem mw_445 : Jvm.Cond.selects "PeelRibbons$Axes" ({ cls := "PeelRibbons$Axes", name := "exactRoom", desc := "(IIII)I" } : Jvm.MethodName) ({ cls := "PeelRibbons$Axes", name := "exactRoom", desc := "(IIII)I" } : Jvm.MethodName) ∈ gG := gG_of (List.mem_of_getElem? (i := 469) rfl) rfl
set_option maxRecDepth 20000 in
theorem mw_471 : Jvm.Cond.methodLink "PeelRibbons" (117 : Nat) ({ cls := "PeelRibbons$Ribbon", name := "peelOff", desc := "(III)V" } : Jvm.MethodName) ∈ gG := gG_of (List.mem_of_getElem? (i := 495) rfl) rfl
set_option maxRecDepth 20000 in
theorem mw_472 : Jvm.Cond.instanceMethod ({ cls := "PeelRibbons$Ribbon", name := "peelOff", desc := "(III)V" } : Jvm.MethodName) ∈ gG := gG_of (List.mem_of_getElem? (i := 496) rfl) rfl
set_option maxRecDepth 20000 in
theorem mw_473 : Jvm.Cond.selects "PeelRibbons$Ribbon" ({ cls := "PeelRibbons$Ribbon", name := "peelOff", desc := "(III)V" } : Jvm.MethodName) ({ cls := "PeelRibbons$Ribbon", name := "peelOff", desc := "(III)V" } : Jvm.MethodName) ∈ gG := gG_of (List.mem_of_getElem? (i := 497) rfl) rfl
set_option maxRecDepth 20000 in
theorem mw_475 : Jvm.Cond.methodLink "PeelRibbons$Ribbon" (18 : Nat) ({ cls := "java/lang/Math", name := "max", desc := "(II)I" } : Jvm.MethodName) ∈ gG := gG_of (List.mem_of_getElem? (i := 499) rfl) rfl
set_option maxRecDepth 20000 in
theorem mw_476 : Jvm.Cond.methodLink "PeelRibbons" (121 : Nat) ({ cls := "PeelRibbons$Ribbon", name := "turns", desc := "()I" } : Jvm.MethodName) ∈ gG := gG_of (List.mem_of_getElem? (i := 500) rfl) rfl
set_option maxRecDepth 20000 in
theorem mw_477 : Jvm.Cond.instanceMethod ({ cls := "PeelRibbons$Ribbon", name := "turns", desc := "()I" } : Jvm.MethodName) ∈ gG := gG_of (List.mem_of_getElem? (i := 501) rfl) rfl
set_option maxRecDepth 20000 in
theorem mw_478 : Jvm.Cond.selects "PeelRibbons$Ribbon" ({ cls := "PeelRibbons$Ribbon", name := "turns", desc := "()I" } : Jvm.MethodName) ({ cls := "PeelRibbons$Ribbon", name := "turns", desc := "()I" } : Jvm.MethodName) ∈ gG := gG_of (List.mem_of_getElem? (i := 502) rfl) rfl
set_option maxRecDepth 20000 in
theorem mw_488 : Jvm.Cond.methodLink "PeelRibbons" (124 : Nat) ({ cls := "PeelRibbons$Ribbon", name := "isPeeled", desc := "()Z" } : Jvm.MethodName) ∈ gG := gG_of (List.mem_of_getElem? (i := 512) rfl) rfl
set_option maxRecDepth 20000 in
theorem mw_489 : Jvm.Cond.instanceMethod ({ cls := "PeelRibbons$Ribbon", name := "isPeeled", desc := "()Z" } : Jvm.MethodName) ∈ gG := gG_of (List.mem_of_getElem? (i := 513) rfl) rfl
set_option maxRecDepth 20000 in
theorem mw_490 : Jvm.Cond.selects "PeelRibbons$Ribbon" ({ cls := "PeelRibbons$Ribbon", name := "isPeeled", desc := "()Z" } : Jvm.MethodName) ({ cls := "PeelRibbons$Ribbon", name := "isPeeled", desc := "()Z" } : Jvm.MethodName) ∈ gG := gG_of (List.mem_of_getElem? (i := 514) rfl) rfl
set_option maxRecDepth 20000 in
theorem mw_509 : Jvm.Cond.methodLink "PeelRibbons" (135 : Nat) ({ cls := "PeelRibbons$Ribbon", name := "lengthBefore", desc := "(I)I" } : Jvm.MethodName) ∈ gG := gG_of (List.mem_of_getElem? (i := 533) rfl) rfl
set_option maxRecDepth 20000 in
theorem mw_510 : Jvm.Cond.instanceMethod ({ cls := "PeelRibbons$Ribbon", name := "lengthBefore", desc := "(I)I" } : Jvm.MethodName) ∈ gG := gG_of (List.mem_of_getElem? (i := 534) rfl) rfl
set_option maxRecDepth 20000 in
theorem mw_511 : Jvm.Cond.selects "PeelRibbons$Ribbon" ({ cls := "PeelRibbons$Ribbon", name := "lengthBefore", desc := "(I)I" } : Jvm.MethodName) ({ cls := "PeelRibbons$Ribbon", name := "lengthBefore", desc := "(I)I" } : Jvm.MethodName) ∈ gG := gG_of (List.mem_of_getElem? (i := 535) rfl) rfl
set_option maxRecDepth 20000 in
theorem mw_513 : Jvm.Cond.methodLink "PeelRibbons$Ribbon" (35 : Nat) ({ cls := "PeelRibbons$Ribbon", name := "roundOf", desc := "(I)I" } : Jvm.MethodName) ∈ gG := gG_of (List.mem_of_getElem? (i := 537) rfl) rfl
set_option maxRecDepth 20000 in
theorem mw_514 : Jvm.Cond.static ({ cls := "PeelRibbons$Ribbon", name := "roundOf", desc := "(I)I" } : Jvm.MethodName) ∈ gG := gG_of (List.mem_of_getElem? (i := 538) rfl) rfl
set_option maxRecDepth 20000 in
theorem mw_523 : Jvm.Cond.methodLink "PeelRibbons" (138 : Nat) ({ cls := "PeelRibbons", name := "isKind", desc := "(I)Z" } : Jvm.MethodName) ∈ gG := gG_of (List.mem_of_getElem? (i := 547) rfl) rfl
set_option maxRecDepth 20000 in
theorem mw_524 : Jvm.Cond.static ({ cls := "PeelRibbons", name := "isKind", desc := "(I)Z" } : Jvm.MethodName) ∈ gG := gG_of (List.mem_of_getElem? (i := 548) rfl) rfl
set_option maxRecDepth 20000 in
theorem mw_527 : Jvm.Cond.methodLink "PeelRibbons" (144 : Nat) ({ cls := "PeelRibbons$Faults", name := "isFull", desc := "()Z" } : Jvm.MethodName) ∈ gG := gG_of (List.mem_of_getElem? (i := 551) rfl) rfl
set_option maxRecDepth 20000 in
theorem mw_528 : Jvm.Cond.instanceMethod ({ cls := "PeelRibbons$Faults", name := "isFull", desc := "()Z" } : Jvm.MethodName) ∈ gG := gG_of (List.mem_of_getElem? (i := 552) rfl) rfl
set_option maxRecDepth 20000 in
theorem mw_529 : Jvm.Cond.selects "PeelRibbons$Faults" ({ cls := "PeelRibbons$Faults", name := "isFull", desc := "()Z" } : Jvm.MethodName) ({ cls := "PeelRibbons$Faults", name := "isFull", desc := "()Z" } : Jvm.MethodName) ∈ gG := gG_of (List.mem_of_getElem? (i := 553) rfl) rfl
set_option maxRecDepth 20000 in
theorem mw_532 : Jvm.Cond.methodLink "PeelRibbons" (149 : Nat) ({ cls := "PeelRibbons$Faults", name := "add", desc := "(III)I" } : Jvm.MethodName) ∈ gG := gG_of (List.mem_of_getElem? (i := 556) rfl) rfl
set_option maxRecDepth 20000 in
theorem mw_533 : Jvm.Cond.instanceMethod ({ cls := "PeelRibbons$Faults", name := "add", desc := "(III)I" } : Jvm.MethodName) ∈ gG := gG_of (List.mem_of_getElem? (i := 557) rfl) rfl
set_option maxRecDepth 20000 in
theorem mw_534 : Jvm.Cond.selects "PeelRibbons$Faults" ({ cls := "PeelRibbons$Faults", name := "add", desc := "(III)I" } : Jvm.MethodName) ({ cls := "PeelRibbons$Faults", name := "add", desc := "(III)I" } : Jvm.MethodName) ∈ gG := gG_of (List.mem_of_getElem? (i := 558) rfl) rfl
set_option maxRecDepth 20000 in
theorem mw_543 : Jvm.Cond.methodLink "PeelRibbons" (152 : Nat) ({ cls := "PeelRibbons$Faults", name := "has", desc := "(I)Z" } : Jvm.MethodName) ∈ gG := gG_of (List.mem_of_getElem? (i := 567) rfl) rfl
set_option maxRecDepth 20000 in
theorem mw_544 : Jvm.Cond.instanceMethod ({ cls := "PeelRibbons$Faults", name := "has", desc := "(I)Z" } : Jvm.MethodName) ∈ gG := gG_of (List.mem_of_getElem? (i := 568) rfl) rfl
set_option maxRecDepth 20000 in
theorem mw_545 : Jvm.Cond.selects "PeelRibbons$Faults" ({ cls := "PeelRibbons$Faults", name := "has", desc := "(I)Z" } : Jvm.MethodName) ({ cls := "PeelRibbons$Faults", name := "has", desc := "(I)Z" } : Jvm.MethodName) ∈ gG := gG_of (List.mem_of_getElem? (i := 569) rfl) rfl
set_option maxRecDepth 20000 in
theorem mw_549 : Jvm.Cond.methodLink "PeelRibbons" (157 : Nat) ({ cls := "PeelRibbons$Faults", name := "placeIn", desc := "(LPeelRibbons$Ribbon;I)I" } : Jvm.MethodName) ∈ gG := gG_of (List.mem_of_getElem? (i := 573) rfl) rfl
set_option maxRecDepth 20000 in
theorem mw_550 : Jvm.Cond.instanceMethod ({ cls := "PeelRibbons$Faults", name := "placeIn", desc := "(LPeelRibbons$Ribbon;I)I" } : Jvm.MethodName) ∈ gG := gG_of (List.mem_of_getElem? (i := 574) rfl) rfl
set_option maxRecDepth 20000 in
theorem mw_551 : Jvm.Cond.selects "PeelRibbons$Faults" ({ cls := "PeelRibbons$Faults", name := "placeIn", desc := "(LPeelRibbons$Ribbon;I)I" } : Jvm.MethodName) ({ cls := "PeelRibbons$Faults", name := "placeIn", desc := "(LPeelRibbons$Ribbon;I)I" } : Jvm.MethodName) ∈ gG := gG_of (List.mem_of_getElem? (i := 575) rfl) rfl
set_option maxRecDepth 20000 in
theorem mw_553 : Jvm.Cond.methodLink "PeelRibbons$Faults" (29 : Nat) ({ cls := "PeelRibbons$Ribbon", name := "placeOf", desc := "(II)I" } : Jvm.MethodName) ∈ gG := gG_of (List.mem_of_getElem? (i := 577) rfl) rfl
set_option maxRecDepth 20000 in
theorem mw_554 : Jvm.Cond.instanceMethod ({ cls := "PeelRibbons$Ribbon", name := "placeOf", desc := "(II)I" } : Jvm.MethodName) ∈ gG := gG_of (List.mem_of_getElem? (i := 578) rfl) rfl
set_option maxRecDepth 20000 in
theorem mw_555 : Jvm.Cond.selects "PeelRibbons$Ribbon" ({ cls := "PeelRibbons$Ribbon", name := "placeOf", desc := "(II)I" } : Jvm.MethodName) ({ cls := "PeelRibbons$Ribbon", name := "placeOf", desc := "(II)I" } : Jvm.MethodName) ∈ gG := gG_of (List.mem_of_getElem? (i := 579) rfl) rfl
set_option maxRecDepth 20000 in
theorem mw_557 : Jvm.Cond.methodLink "PeelRibbons$Ribbon" (31 : Nat) ({ cls := "PeelRibbons$Ribbon", name := "lengthBefore", desc := "(I)I" } : Jvm.MethodName) ∈ gG := gG_of (List.mem_of_getElem? (i := 581) rfl) rfl
set_option maxRecDepth 20000 in
theorem mw_565 : Jvm.Cond.constant "PeelRibbons" (161 : Nat) (1000000 : Int32) ∈ gG := gG_of (List.mem_of_getElem? (i := 589) rfl) rfl
set_option maxRecDepth 20000 in
theorem mw_567 : Jvm.Cond.methodLink "PeelRibbons" (164 : Nat) ({ cls := "PeelRibbons$Leaves", name := "isFull", desc := "()Z" } : Jvm.MethodName) ∈ gG := gG_of (List.mem_of_getElem? (i := 591) rfl) rfl
set_option maxRecDepth 20000 in
theorem mw_568 : Jvm.Cond.instanceMethod ({ cls := "PeelRibbons$Leaves", name := "isFull", desc := "()Z" } : Jvm.MethodName) ∈ gG := gG_of (List.mem_of_getElem? (i := 592) rfl) rfl
set_option maxRecDepth 20000 in
theorem mw_569 : Jvm.Cond.selects "PeelRibbons$Leaves" ({ cls := "PeelRibbons$Leaves", name := "isFull", desc := "()Z" } : Jvm.MethodName) ({ cls := "PeelRibbons$Leaves", name := "isFull", desc := "()Z" } : Jvm.MethodName) ∈ gG := gG_of (List.mem_of_getElem? (i := 593) rfl) rfl
set_option maxRecDepth 20000 in
theorem mw_572 : Jvm.Cond.methodLink "PeelRibbons" (167 : Nat) ({ cls := "PeelRibbons$Leaves", name := "add", desc := "(II)I" } : Jvm.MethodName) ∈ gG := gG_of (List.mem_of_getElem? (i := 596) rfl) rfl
set_option maxRecDepth 20000 in
theorem mw_573 : Jvm.Cond.instanceMethod ({ cls := "PeelRibbons$Leaves", name := "add", desc := "(II)I" } : Jvm.MethodName) ∈ gG := gG_of (List.mem_of_getElem? (i := 597) rfl) rfl
set_option maxRecDepth 20000 in
theorem mw_574 : Jvm.Cond.selects "PeelRibbons$Leaves" ({ cls := "PeelRibbons$Leaves", name := "add", desc := "(II)I" } : Jvm.MethodName) ({ cls := "PeelRibbons$Leaves", name := "add", desc := "(II)I" } : Jvm.MethodName) ∈ gG := gG_of (List.mem_of_getElem? (i := 598) rfl) rfl
set_option maxRecDepth 20000 in
theorem mw_583 : Jvm.Cond.methodLink "PeelRibbons" (170 : Nat) ({ cls := "PeelRibbons$Leaves", name := "has", desc := "(I)Z" } : Jvm.MethodName) ∈ gG := gG_of (List.mem_of_getElem? (i := 607) rfl) rfl
set_option maxRecDepth 20000 in
theorem mw_584 : Jvm.Cond.instanceMethod ({ cls := "PeelRibbons$Leaves", name := "has", desc := "(I)Z" } : Jvm.MethodName) ∈ gG := gG_of (List.mem_of_getElem? (i := 608) rfl) rfl
set_option maxRecDepth 20000 in
theorem mw_585 : Jvm.Cond.selects "PeelRibbons$Leaves" ({ cls := "PeelRibbons$Leaves", name := "has", desc := "(I)Z" } : Jvm.MethodName) ({ cls := "PeelRibbons$Leaves", name := "has", desc := "(I)Z" } : Jvm.MethodName) ∈ gG := gG_of (List.mem_of_getElem? (i := 609) rfl) rfl
set_option maxRecDepth 20000 in
theorem mw_589 : Jvm.Cond.methodLink "PeelRibbons" (173 : Nat) ({ cls := "PeelRibbons$Leaves", name := "tellBar", desc := "(IIZ)Z" } : Jvm.MethodName) ∈ gG := gG_of (List.mem_of_getElem? (i := 613) rfl) rfl
set_option maxRecDepth 20000 in
theorem mw_590 : Jvm.Cond.instanceMethod ({ cls := "PeelRibbons$Leaves", name := "tellBar", desc := "(IIZ)Z" } : Jvm.MethodName) ∈ gG := gG_of (List.mem_of_getElem? (i := 614) rfl) rfl
set_option maxRecDepth 20000 in
theorem mw_591 : Jvm.Cond.selects "PeelRibbons$Leaves" ({ cls := "PeelRibbons$Leaves", name := "tellBar", desc := "(IIZ)Z" } : Jvm.MethodName) ({ cls := "PeelRibbons$Leaves", name := "tellBar", desc := "(IIZ)Z" } : Jvm.MethodName) ∈ gG := gG_of (List.mem_of_getElem? (i := 615) rfl) rfl
set_option maxRecDepth 20000 in
theorem mw_593 : Jvm.Cond.methodLink "PeelRibbons$Leaves" (29 : Nat) ({ cls := "PeelRibbons$Leaves", name := "barsAny", desc := "(II)Z" } : Jvm.MethodName) ∈ gG := gG_of (List.mem_of_getElem? (i := 617) rfl) rfl
set_option maxRecDepth 20000 in
theorem mw_594 : Jvm.Cond.instanceMethod ({ cls := "PeelRibbons$Leaves", name := "barsAny", desc := "(II)Z" } : Jvm.MethodName) ∈ gG := gG_of (List.mem_of_getElem? (i := 618) rfl) rfl
set_option maxRecDepth 20000 in
theorem mw_595 : Jvm.Cond.selects "PeelRibbons$Leaves" ({ cls := "PeelRibbons$Leaves", name := "barsAny", desc := "(II)Z" } : Jvm.MethodName) ({ cls := "PeelRibbons$Leaves", name := "barsAny", desc := "(II)Z" } : Jvm.MethodName) ∈ gG := gG_of (List.mem_of_getElem? (i := 619) rfl) rfl
set_option maxRecDepth 20000 in
theorem mw_605 : Jvm.Cond.methodLink "PeelRibbons" (179 : Nat) ({ cls := "PeelRibbons$Clipping", name := "cut", desc := "(LPeelRibbons$Ribbon;LPeelRibbons$Faults;LPeelRibbons$Leaves;I)V" } : Jvm.MethodName) ∈ gG := gG_of (List.mem_of_getElem? (i := 629) rfl) rfl
set_option maxRecDepth 20000 in
theorem mw_606 : Jvm.Cond.instanceMethod ({ cls := "PeelRibbons$Clipping", name := "cut", desc := "(LPeelRibbons$Ribbon;LPeelRibbons$Faults;LPeelRibbons$Leaves;I)V" } : Jvm.MethodName) ∈ gG := gG_of (List.mem_of_getElem? (i := 630) rfl) rfl
set_option maxRecDepth 20000 in
theorem mw_607 : Jvm.Cond.selects "PeelRibbons$Clipping" ({ cls := "PeelRibbons$Clipping", name := "cut", desc := "(LPeelRibbons$Ribbon;LPeelRibbons$Faults;LPeelRibbons$Leaves;I)V" } : Jvm.MethodName) ({ cls := "PeelRibbons$Clipping", name := "cut", desc := "(LPeelRibbons$Ribbon;LPeelRibbons$Faults;LPeelRibbons$Leaves;I)V" } : Jvm.MethodName) ∈ gG := gG_of (List.mem_of_getElem? (i := 631) rfl) rfl
set_option maxRecDepth 20000 in
theorem mw_609 : Jvm.Cond.methodLink "PeelRibbons$Clipping" (47 : Nat) ({ cls := "java/lang/Math", name := "max", desc := "(II)I" } : Jvm.MethodName) ∈ gG := gG_of (List.mem_of_getElem? (i := 633) rfl) rfl
set_option maxRecDepth 20000 in
theorem mw_610 : Jvm.Cond.methodLink "PeelRibbons$Clipping" (53 : Nat) ({ cls := "PeelRibbons$Ribbon", name := "length", desc := "()I" } : Jvm.MethodName) ∈ gG := gG_of (List.mem_of_getElem? (i := 634) rfl) rfl
set_option maxRecDepth 20000 in
theorem mw_611 : Jvm.Cond.instanceMethod ({ cls := "PeelRibbons$Ribbon", name := "length", desc := "()I" } : Jvm.MethodName) ∈ gG := gG_of (List.mem_of_getElem? (i := 635) rfl) rfl
set_option maxRecDepth 20000 in
theorem mw_612 : Jvm.Cond.selects "PeelRibbons$Ribbon" ({ cls := "PeelRibbons$Ribbon", name := "length", desc := "()I" } : Jvm.MethodName) ({ cls := "PeelRibbons$Ribbon", name := "length", desc := "()I" } : Jvm.MethodName) ∈ gG := gG_of (List.mem_of_getElem? (i := 636) rfl) rfl
set_option maxRecDepth 20000 in
theorem mw_614 : Jvm.Cond.methodLink "PeelRibbons$Clipping" (59 : Nat) ({ cls := "java/lang/Math", name := "min", desc := "(II)I" } : Jvm.MethodName) ∈ gG := gG_of (List.mem_of_getElem? (i := 638) rfl) rfl
set_option maxRecDepth 20000 in
theorem mw_615 : Jvm.Cond.methodLink "PeelRibbons$Clipping" (62 : Nat) ({ cls := "PeelRibbons$Clipping", name := "markFaults", desc := "(LPeelRibbons$Ribbon;LPeelRibbons$Faults;I)V" } : Jvm.MethodName) ∈ gG := gG_of (List.mem_of_getElem? (i := 639) rfl) rfl
set_option maxRecDepth 20000 in
theorem mw_617 : Jvm.Cond.instanceMethod ({ cls := "PeelRibbons$Clipping", name := "markFaults", desc := "(LPeelRibbons$Ribbon;LPeelRibbons$Faults;I)V" } : Jvm.MethodName) ∈ gG := gG_of (List.mem_of_getElem? (i := 641) rfl) rfl
set_option maxRecDepth 20000 in
theorem mw_619 : Jvm.Cond.methodLink "PeelRibbons$Clipping" (73 : Nat) ({ cls := "PeelRibbons$Faults", name := "count", desc := "()I" } : Jvm.MethodName) ∈ gG := gG_of (List.mem_of_getElem? (i := 643) rfl) rfl
set_option maxRecDepth 20000 in
theorem mw_620 : Jvm.Cond.instanceMethod ({ cls := "PeelRibbons$Faults", name := "count", desc := "()I" } : Jvm.MethodName) ∈ gG := gG_of (List.mem_of_getElem? (i := 644) rfl) rfl
set_option maxRecDepth 20000 in
theorem mw_621 : Jvm.Cond.selects "PeelRibbons$Faults" ({ cls := "PeelRibbons$Faults", name := "count", desc := "()I" } : Jvm.MethodName) ({ cls := "PeelRibbons$Faults", name := "count", desc := "()I" } : Jvm.MethodName) ∈ gG := gG_of (List.mem_of_getElem? (i := 645) rfl) rfl
set_option maxRecDepth 20000 in
theorem mw_623 : Jvm.Cond.methodLink "PeelRibbons$Clipping" (77 : Nat) ({ cls := "PeelRibbons$Faults", name := "placeIn", desc := "(LPeelRibbons$Ribbon;I)I" } : Jvm.MethodName) ∈ gG := gG_of (List.mem_of_getElem? (i := 647) rfl) rfl
set_option maxRecDepth 20000 in
theorem mw_624 : Jvm.Cond.methodLink "PeelRibbons$Clipping" (81 : Nat) ({ cls := "PeelRibbons$Faults", name := "kindBit", desc := "(I)I" } : Jvm.MethodName) ∈ gG := gG_of (List.mem_of_getElem? (i := 648) rfl) rfl
set_option maxRecDepth 20000 in
theorem mw_625 : Jvm.Cond.instanceMethod ({ cls := "PeelRibbons$Faults", name := "kindBit", desc := "(I)I" } : Jvm.MethodName) ∈ gG := gG_of (List.mem_of_getElem? (i := 649) rfl) rfl
set_option maxRecDepth 20000 in
theorem mw_626 : Jvm.Cond.selects "PeelRibbons$Faults" ({ cls := "PeelRibbons$Faults", name := "kindBit", desc := "(I)I" } : Jvm.MethodName) ({ cls := "PeelRibbons$Faults", name := "kindBit", desc := "(I)I" } : Jvm.MethodName) ∈ gG := gG_of (List.mem_of_getElem? (i := 650) rfl) rfl
set_option maxRecDepth 20000 in
theorem mw_628 : Jvm.Cond.methodLink "PeelRibbons$Clipping" (66 : Nat) ({ cls := "PeelRibbons$Clipping", name := "chooseFromTheEnd", desc := "(LPeelRibbons$Leaves;)V" } : Jvm.MethodName) ∈ gG := gG_of (List.mem_of_getElem? (i := 652) rfl) rfl
set_option maxRecDepth 20000 in
theorem mw_630 : Jvm.Cond.instanceMethod ({ cls := "PeelRibbons$Clipping", name := "chooseFromTheEnd", desc := "(LPeelRibbons$Leaves;)V" } : Jvm.MethodName) ∈ gG := gG_of (List.mem_of_getElem? (i := 654) rfl) rfl
set_option maxRecDepth 20000 in
theorem mw_632 : Jvm.Cond.methodLink "PeelRibbons$Clipping" (85 : Nat) ({ cls := "PeelRibbons$Leaves", name := "count", desc := "()I" } : Jvm.MethodName) ∈ gG := gG_of (List.mem_of_getElem? (i := 656) rfl) rfl
set_option maxRecDepth 20000 in
theorem mw_633 : Jvm.Cond.instanceMethod ({ cls := "PeelRibbons$Leaves", name := "count", desc := "()I" } : Jvm.MethodName) ∈ gG := gG_of (List.mem_of_getElem? (i := 657) rfl) rfl
set_option maxRecDepth 20000 in
theorem mw_634 : Jvm.Cond.selects "PeelRibbons$Leaves" ({ cls := "PeelRibbons$Leaves", name := "count", desc := "()I" } : Jvm.MethodName) ({ cls := "PeelRibbons$Leaves", name := "count", desc := "()I" } : Jvm.MethodName) ∈ gG := gG_of (List.mem_of_getElem? (i := 658) rfl) rfl
set_option maxRecDepth 20000 in
theorem mw_636 : Jvm.Cond.methodLink "PeelRibbons$Clipping" (86 : Nat) ({ cls := "PeelRibbons$Clipping", name := "chooseAt", desc := "(ILPeelRibbons$Leaves;)V" } : Jvm.MethodName) ∈ gG := gG_of (List.mem_of_getElem? (i := 660) rfl) rfl
set_option maxRecDepth 20000 in
theorem mw_638 : Jvm.Cond.instanceMethod ({ cls := "PeelRibbons$Clipping", name := "chooseAt", desc := "(ILPeelRibbons$Leaves;)V" } : Jvm.MethodName) ∈ gG := gG_of (List.mem_of_getElem? (i := 662) rfl) rfl
set_option maxRecDepth 20000 in
theorem mw_640 : Jvm.Cond.methodLink "PeelRibbons$Clipping" (90 : Nat) ({ cls := "PeelRibbons$Leaves", name := "barsAny", desc := "(II)Z" } : Jvm.MethodName) ∈ gG := gG_of (List.mem_of_getElem? (i := 664) rfl) rfl
set_option maxRecDepth 20000 in
theorem mw_641 : Jvm.Cond.methodLink "PeelRibbons$Clipping" (94 : Nat) ({ cls := "PeelRibbons$Leaves", name := "width", desc := "(I)I" } : Jvm.MethodName) ∈ gG := gG_of (List.mem_of_getElem? (i := 665) rfl) rfl
set_option maxRecDepth 20000 in
theorem mw_642 : Jvm.Cond.instanceMethod ({ cls := "PeelRibbons$Leaves", name := "width", desc := "(I)I" } : Jvm.MethodName) ∈ gG := gG_of (List.mem_of_getElem? (i := 666) rfl) rfl
set_option maxRecDepth 20000 in
theorem mw_643 : Jvm.Cond.selects "PeelRibbons$Leaves" ({ cls := "PeelRibbons$Leaves", name := "width", desc := "(I)I" } : Jvm.MethodName) ({ cls := "PeelRibbons$Leaves", name := "width", desc := "(I)I" } : Jvm.MethodName) ∈ gG := gG_of (List.mem_of_getElem? (i := 667) rfl) rfl
set_option maxRecDepth 20000 in
theorem mw_645 : Jvm.Cond.methodLink "PeelRibbons$Clipping" (97 : Nat) ({ cls := "PeelRibbons$Leaves", name := "worth", desc := "(I)I" } : Jvm.MethodName) ∈ gG := gG_of (List.mem_of_getElem? (i := 669) rfl) rfl
set_option maxRecDepth 20000 in
theorem mw_646 : Jvm.Cond.instanceMethod ({ cls := "PeelRibbons$Leaves", name := "worth", desc := "(I)I" } : Jvm.MethodName) ∈ gG := gG_of (List.mem_of_getElem? (i := 670) rfl) rfl
set_option maxRecDepth 20000 in
theorem mw_647 : Jvm.Cond.selects "PeelRibbons$Leaves" ({ cls := "PeelRibbons$Leaves", name := "worth", desc := "(I)I" } : Jvm.MethodName) ({ cls := "PeelRibbons$Leaves", name := "worth", desc := "(I)I" } : Jvm.MethodName) ∈ gG := gG_of (List.mem_of_getElem? (i := 671) rfl) rfl
set_option maxRecDepth 20000 in
theorem mw_649 : Jvm.Cond.constantLong "PeelRibbons$Clipping" (99 : Nat) (2001 : Int64) ∈ gG := gG_of (List.mem_of_getElem? (i := 673) rfl) rfl
set_option maxRecDepth 20000 in
theorem mw_650 : Jvm.Cond.methodLink "PeelRibbons$Clipping" (101 : Nat) ({ cls := "PeelRibbons$Clipping", name := "tryLeaf", desc := "(IIJ)V" } : Jvm.MethodName) ∈ gG := gG_of (List.mem_of_getElem? (i := 674) rfl) rfl
set_option maxRecDepth 20000 in
theorem mw_652 : Jvm.Cond.instanceMethod ({ cls := "PeelRibbons$Clipping", name := "tryLeaf", desc := "(IIJ)V" } : Jvm.MethodName) ∈ gG := gG_of (List.mem_of_getElem? (i := 676) rfl) rfl
set_option maxRecDepth 20000 in
theorem mw_654 : Jvm.Cond.methodLink "PeelRibbons$Clipping" (70 : Nat) ({ cls := "PeelRibbons$Clipping", name := "listFromTheBegin", desc := "(LPeelRibbons$Leaves;)V" } : Jvm.MethodName) ∈ gG := gG_of (List.mem_of_getElem? (i := 678) rfl) rfl
set_option maxRecDepth 20000 in
theorem mw_656 : Jvm.Cond.instanceMethod ({ cls := "PeelRibbons$Clipping", name := "listFromTheBegin", desc := "(LPeelRibbons$Leaves;)V" } : Jvm.MethodName) ∈ gG := gG_of (List.mem_of_getElem? (i := 680) rfl) rfl
set_option maxRecDepth 20000 in
theorem mw_658 : Jvm.Cond.methodLink "PeelRibbons" (183 : Nat) ({ cls := "PeelRibbons$Clipping", name := "count", desc := "()I" } : Jvm.MethodName) ∈ gG := gG_of (List.mem_of_getElem? (i := 682) rfl) rfl
set_option maxRecDepth 20000 in
theorem mw_659 : Jvm.Cond.instanceMethod ({ cls := "PeelRibbons$Clipping", name := "count", desc := "()I" } : Jvm.MethodName) ∈ gG := gG_of (List.mem_of_getElem? (i := 683) rfl) rfl
set_option maxRecDepth 20000 in
theorem mw_660 : Jvm.Cond.selects "PeelRibbons$Clipping" ({ cls := "PeelRibbons$Clipping", name := "count", desc := "()I" } : Jvm.MethodName) ({ cls := "PeelRibbons$Clipping", name := "count", desc := "()I" } : Jvm.MethodName) ∈ gG := gG_of (List.mem_of_getElem? (i := 684) rfl) rfl
set_option maxRecDepth 20000 in
theorem mw_669 : Jvm.Cond.methodLink "PeelRibbons" (186 : Nat) ({ cls := "PeelRibbons$Clipping", name := "isDone", desc := "()Z" } : Jvm.MethodName) ∈ gG := gG_of (List.mem_of_getElem? (i := 693) rfl) rfl
set_option maxRecDepth 20000 in
theorem mw_670 : Jvm.Cond.instanceMethod ({ cls := "PeelRibbons$Clipping", name := "isDone", desc := "()Z" } : Jvm.MethodName) ∈ gG := gG_of (List.mem_of_getElem? (i := 694) rfl) rfl
set_option maxRecDepth 20000 in
theorem mw_671 : Jvm.Cond.selects "PeelRibbons$Clipping" ({ cls := "PeelRibbons$Clipping", name := "isDone", desc := "()Z" } : Jvm.MethodName) ({ cls := "PeelRibbons$Clipping", name := "isDone", desc := "()Z" } : Jvm.MethodName) ∈ gG := gG_of (List.mem_of_getElem? (i := 695) rfl) rfl
set_option maxRecDepth 20000 in
theorem mw_675 : Jvm.Cond.methodLink "PeelRibbons" (193 : Nat) ({ cls := "PeelRibbons$Clipping", name := "leafOf", desc := "(I)I" } : Jvm.MethodName) ∈ gG := gG_of (List.mem_of_getElem? (i := 699) rfl) rfl
set_option maxRecDepth 20000 in
theorem mw_676 : Jvm.Cond.instanceMethod ({ cls := "PeelRibbons$Clipping", name := "leafOf", desc := "(I)I" } : Jvm.MethodName) ∈ gG := gG_of (List.mem_of_getElem? (i := 700) rfl) rfl
set_option maxRecDepth 20000 in
theorem mw_677 : Jvm.Cond.selects "PeelRibbons$Clipping" ({ cls := "PeelRibbons$Clipping", name := "leafOf", desc := "(I)I" } : Jvm.MethodName) ({ cls := "PeelRibbons$Clipping", name := "leafOf", desc := "(I)I" } : Jvm.MethodName) ∈ gG := gG_of (List.mem_of_getElem? (i := 701) rfl) rfl
set_option maxRecDepth 20000 in
theorem mw_679 : Jvm.Cond.methodLink "PeelRibbons" (196 : Nat) ({ cls := "PeelRibbons$Clipping", name := "firstStepOf", desc := "(I)I" } : Jvm.MethodName) ∈ gG := gG_of (List.mem_of_getElem? (i := 703) rfl) rfl
set_option maxRecDepth 20000 in
theorem mw_680 : Jvm.Cond.instanceMethod ({ cls := "PeelRibbons$Clipping", name := "firstStepOf", desc := "(I)I" } : Jvm.MethodName) ∈ gG := gG_of (List.mem_of_getElem? (i := 704) rfl) rfl
set_option maxRecDepth 20000 in
theorem mw_681 : Jvm.Cond.selects "PeelRibbons$Clipping" ({ cls := "PeelRibbons$Clipping", name := "firstStepOf", desc := "(I)I" } : Jvm.MethodName) ({ cls := "PeelRibbons$Clipping", name := "firstStepOf", desc := "(I)I" } : Jvm.MethodName) ∈ gG := gG_of (List.mem_of_getElem? (i := 705) rfl) rfl
set_option maxRecDepth 20000 in
theorem mw_691 : Jvm.Cond.methodLink "PeelRibbons" (201 : Nat) ({ cls := "PeelRibbons$Clipping", name := "worth", desc := "()I" } : Jvm.MethodName) ∈ gG := gG_of (List.mem_of_getElem? (i := 715) rfl) rfl
set_option maxRecDepth 20000 in
theorem mw_692 : Jvm.Cond.instanceMethod ({ cls := "PeelRibbons$Clipping", name := "worth", desc := "()I" } : Jvm.MethodName) ∈ gG := gG_of (List.mem_of_getElem? (i := 716) rfl) rfl
set_option maxRecDepth 20000 in
theorem mw_693 : Jvm.Cond.selects "PeelRibbons$Clipping" ({ cls := "PeelRibbons$Clipping", name := "worth", desc := "()I" } : Jvm.MethodName) ({ cls := "PeelRibbons$Clipping", name := "worth", desc := "()I" } : Jvm.MethodName) ∈ gG := gG_of (List.mem_of_getElem? (i := 717) rfl) rfl
set_option maxRecDepth 20000 in
theorem mw_695 : Jvm.Cond.methodLink "PeelRibbons" (204 : Nat) ({ cls := "PeelRibbons$Clipping", name := "waste", desc := "()I" } : Jvm.MethodName) ∈ gG := gG_of (List.mem_of_getElem? (i := 719) rfl) rfl
set_option maxRecDepth 20000 in
theorem mw_696 : Jvm.Cond.instanceMethod ({ cls := "PeelRibbons$Clipping", name := "waste", desc := "()I" } : Jvm.MethodName) ∈ gG := gG_of (List.mem_of_getElem? (i := 720) rfl) rfl
set_option maxRecDepth 20000 in
theorem mw_697 : Jvm.Cond.selects "PeelRibbons$Clipping" ({ cls := "PeelRibbons$Clipping", name := "waste", desc := "()I" } : Jvm.MethodName) ({ cls := "PeelRibbons$Clipping", name := "waste", desc := "()I" } : Jvm.MethodName) ∈ gG := gG_of (List.mem_of_getElem? (i := 721) rfl) rfl
set_option maxRecDepth 20000 in
theorem mw_699 : Jvm.Cond.methodLink "PeelRibbons" (207 : Nat) ({ cls := "PeelRibbons$Clipping", name := "steps", desc := "()I" } : Jvm.MethodName) ∈ gG := gG_of (List.mem_of_getElem? (i := 723) rfl) rfl
set_option maxRecDepth 20000 in
theorem mw_700 : Jvm.Cond.instanceMethod ({ cls := "PeelRibbons$Clipping", name := "steps", desc := "()I" } : Jvm.MethodName) ∈ gG := gG_of (List.mem_of_getElem? (i := 724) rfl) rfl
set_option maxRecDepth 20000 in
theorem mw_701 : Jvm.Cond.selects "PeelRibbons$Clipping" ({ cls := "PeelRibbons$Clipping", name := "steps", desc := "()I" } : Jvm.MethodName) ({ cls := "PeelRibbons$Clipping", name := "steps", desc := "()I" } : Jvm.MethodName) ∈ gG := gG_of (List.mem_of_getElem? (i := 725) rfl) rfl
set_option maxRecDepth 20000 in
theorem mw_712 : Jvm.Cond.methodLink "PeelRibbons" (214 : Nat) ({ cls := "PeelRibbons$Leaves", name := "width", desc := "(I)I" } : Jvm.MethodName) ∈ gG := gG_of (List.mem_of_getElem? (i := 736) rfl) rfl
set_option maxRecDepth 20000 in
theorem mw_720 : Jvm.Cond.methodLink "PeelRibbons" (217 : Nat) ({ cls := "PeelRibbons$KnifeRows", name := "isBelowLast", desc := "(I)Z" } : Jvm.MethodName) ∈ gG := gG_of (List.mem_of_getElem? (i := 744) rfl) rfl
set_option maxRecDepth 20000 in
theorem mw_721 : Jvm.Cond.instanceMethod ({ cls := "PeelRibbons$KnifeRows", name := "isBelowLast", desc := "(I)Z" } : Jvm.MethodName) ∈ gG := gG_of (List.mem_of_getElem? (i := 745) rfl) rfl
set_option maxRecDepth 20000 in
theorem mw_722 : Jvm.Cond.selects "PeelRibbons$KnifeRows" ({ cls := "PeelRibbons$KnifeRows", name := "isBelowLast", desc := "(I)Z" } : Jvm.MethodName) ({ cls := "PeelRibbons$KnifeRows", name := "isBelowLast", desc := "(I)Z" } : Jvm.MethodName) ∈ gG := gG_of (List.mem_of_getElem? (i := 746) rfl) rfl
set_option maxRecDepth 20000 in
theorem mw_725 : Jvm.Cond.methodLink "PeelRibbons" (222 : Nat) ({ cls := "PeelRibbons$KnifeRows", name := "add", desc := "(II)Z" } : Jvm.MethodName) ∈ gG := gG_of (List.mem_of_getElem? (i := 749) rfl) rfl
set_option maxRecDepth 20000 in
theorem mw_726 : Jvm.Cond.instanceMethod ({ cls := "PeelRibbons$KnifeRows", name := "add", desc := "(II)Z" } : Jvm.MethodName) ∈ gG := gG_of (List.mem_of_getElem? (i := 750) rfl) rfl
set_option maxRecDepth 20000 in
theorem mw_727 : Jvm.Cond.selects "PeelRibbons$KnifeRows" ({ cls := "PeelRibbons$KnifeRows", name := "add", desc := "(II)Z" } : Jvm.MethodName) ({ cls := "PeelRibbons$KnifeRows", name := "add", desc := "(II)Z" } : Jvm.MethodName) ∈ gG := gG_of (List.mem_of_getElem? (i := 751) rfl) rfl
set_option maxRecDepth 20000 in
theorem mw_737 : Jvm.Cond.methodLink "PeelRibbons" (226 : Nat) ({ cls := "PeelRibbons$KnifeRows", name := "answerAt", desc := "(I)I" } : Jvm.MethodName) ∈ gG := gG_of (List.mem_of_getElem? (i := 761) rfl) rfl
set_option maxRecDepth 20000 in
theorem mw_738 : Jvm.Cond.instanceMethod ({ cls := "PeelRibbons$KnifeRows", name := "answerAt", desc := "(I)I" } : Jvm.MethodName) ∈ gG := gG_of (List.mem_of_getElem? (i := 762) rfl) rfl
set_option maxRecDepth 20000 in
theorem mw_739 : Jvm.Cond.selects "PeelRibbons$KnifeRows" ({ cls := "PeelRibbons$KnifeRows", name := "answerAt", desc := "(I)I" } : Jvm.MethodName) ({ cls := "PeelRibbons$KnifeRows", name := "answerAt", desc := "(I)I" } : Jvm.MethodName) ∈ gG := gG_of (List.mem_of_getElem? (i := 763) rfl) rfl
set_option maxRecDepth 20000 in
theorem mw_747 : Jvm.Cond.fieldLink "PeelRibbonsModel" (70 : Nat) "PeelRibbonsModel" "thrown" "I" ∈ gG := gG_of (List.mem_of_getElem? (i := 771) rfl) rfl
set_option maxRecDepth 20000 in
theorem mw_748 : Jvm.Cond.fieldLink "PeelRibbonsModel" (60 : Nat) "PeelRibbonsModel" "slices" "I" ∈ gG := gG_of (List.mem_of_getElem? (i := 772) rfl) rfl
set_option maxRecDepth 20000 in
theorem mw_749 : Jvm.Cond.fieldLink "PeelRibbonsModel" (64 : Nat) "PeelRibbonsModel" "side" "I" ∈ gG := gG_of (List.mem_of_getElem? (i := 773) rfl) rfl
set_option maxRecDepth 20000 in
theorem mw_750 : Jvm.Cond.fieldLink "PeelRibbonsModel" (67 : Nat) "PeelRibbonsModel" "parts" "I" ∈ gG := gG_of (List.mem_of_getElem? (i := 774) rfl) rfl
set_option maxRecDepth 20000 in
theorem mw_751 : Jvm.Cond.fieldLink "PeelRibbonsModel" (7 : Nat) "PeelRibbonsModel" "in" "[Z" ∈ gG := gG_of (List.mem_of_getElem? (i := 775) rfl) rfl
set_option maxRecDepth 20000 in
theorem mw_752 : Jvm.Cond.fieldLink "PeelRibbonsModel" (13 : Nat) "PeelRibbonsModel" "squares" "[I" ∈ gG := gG_of (List.mem_of_getElem? (i := 776) rfl) rfl
set_option maxRecDepth 20000 in
theorem mw_753 : Jvm.Cond.fieldLink "PeelRibbonsModel" (77 : Nat) "PeelRibbonsModel" "known" "Z" ∈ gG := gG_of (List.mem_of_getElem? (i := 777) rfl) rfl
set_option maxRecDepth 20000 in
theorem mw_754 : Jvm.Cond.fieldLink "PeelRibbonsModel" (99 : Nat) "PeelRibbonsModel" "room" "I" ∈ gG := gG_of (List.mem_of_getElem? (i := 778) rfl) rfl
set_option maxRecDepth 20000 in
theorem mw_755 : Jvm.Cond.fieldLink "PeelRibbonsModel" (17 : Nat) "PeelRibbonsModel" "axis" "[I" ∈ gG := gG_of (List.mem_of_getElem? (i := 779) rfl) rfl
set_option maxRecDepth 20000 in
theorem mw_756 : Jvm.Cond.fieldLink "PeelRibbonsModel" (81 : Nat) "PeelRibbonsModel" "peeled" "Z" ∈ gG := gG_of (List.mem_of_getElem? (i := 780) rfl) rfl
set_option maxRecDepth 20000 in
theorem mw_757 : Jvm.Cond.fieldLink "PeelRibbonsModel" (115 : Nat) "PeelRibbonsModel" "thick" "I" ∈ gG := gG_of (List.mem_of_getElem? (i := 781) rfl) rfl
set_option maxRecDepth 20000 in
theorem mw_758 : Jvm.Cond.fieldLink "PeelRibbonsModel" (118 : Nat) "PeelRibbonsModel" "turns" "I" ∈ gG := gG_of (List.mem_of_getElem? (i := 782) rfl) rfl
set_option maxRecDepth 20000 in
theorem mw_759 : Jvm.Cond.fieldLink "PeelRibbonsModel" (113 : Nat) "PeelRibbonsModel" "radius" "I" ∈ gG := gG_of (List.mem_of_getElem? (i := 783) rfl) rfl
set_option maxRecDepth 20000 in
theorem mw_760 : Jvm.Cond.fieldLink "PeelRibbonsModel" (20 : Nat) "PeelRibbonsModel" "angles" "[I" ∈ gG := gG_of (List.mem_of_getElem? (i := 784) rfl) rfl
set_option maxRecDepth 20000 in
theorem mw_761 : Jvm.Cond.fieldLink "PeelRibbonsModel" (23 : Nat) "PeelRibbonsModel" "radii" "[I" ∈ gG := gG_of (List.mem_of_getElem? (i := 785) rfl) rfl
set_option maxRecDepth 20000 in
theorem mw_762 : Jvm.Cond.fieldLink "PeelRibbonsModel" (26 : Nat) "PeelRibbonsModel" "kinds" "[I" ∈ gG := gG_of (List.mem_of_getElem? (i := 786) rfl) rfl
set_option maxRecDepth 20000 in
theorem mw_763 : Jvm.Cond.fieldLink "PeelRibbonsModel" (125 : Nat) "PeelRibbonsModel" "faults" "I" ∈ gG := gG_of (List.mem_of_getElem? (i := 787) rfl) rfl
set_option maxRecDepth 20000 in
theorem mw_764 : Jvm.Cond.fieldLink "PeelRibbonsModel" (29 : Nat) "PeelRibbonsModel" "widths" "[I" ∈ gG := gG_of (List.mem_of_getElem? (i := 788) rfl) rfl
set_option maxRecDepth 20000 in
theorem mw_765 : Jvm.Cond.fieldLink "PeelRibbonsModel" (32 : Nat) "PeelRibbonsModel" "worths" "[I" ∈ gG := gG_of (List.mem_of_getElem? (i := 789) rfl) rfl
set_option maxRecDepth 20000 in
theorem mw_766 : Jvm.Cond.fieldLink "PeelRibbonsModel" (35 : Nat) "PeelRibbonsModel" "barred" "[I" ∈ gG := gG_of (List.mem_of_getElem? (i := 790) rfl) rfl
set_option maxRecDepth 20000 in
theorem mw_767 : Jvm.Cond.fieldLink "PeelRibbonsModel" (131 : Nat) "PeelRibbonsModel" "leaves" "I" ∈ gG := gG_of (List.mem_of_getElem? (i := 791) rfl) rfl
set_option maxRecDepth 20000 in
theorem mw_768 : Jvm.Cond.fieldLink "PeelRibbonsModel" (84 : Nat) "PeelRibbonsModel" "clipped" "Z" ∈ gG := gG_of (List.mem_of_getElem? (i := 792) rfl) rfl
set_option maxRecDepth 20000 in
theorem mw_769 : Jvm.Cond.fieldLink "PeelRibbonsModel" (134 : Nat) "PeelRibbonsModel" "steps" "I" ∈ gG := gG_of (List.mem_of_getElem? (i := 793) rfl) rfl
set_option maxRecDepth 20000 in
theorem mw_770 : Jvm.Cond.fieldLink "PeelRibbonsModel" (38 : Nat) "PeelRibbonsModel" "marks" "[I" ∈ gG := gG_of (List.mem_of_getElem? (i := 794) rfl) rfl
set_option maxRecDepth 20000 in
theorem mw_771 : Jvm.Cond.fieldLink "PeelRibbonsModel" (41 : Nat) "PeelRibbonsModel" "best" "[J" ∈ gG := gG_of (List.mem_of_getElem? (i := 795) rfl) rfl
set_option maxRecDepth 20000 in
theorem mw_772 : Jvm.Cond.fieldLink "PeelRibbonsModel" (45 : Nat) "PeelRibbonsModel" "waste" "[I" ∈ gG := gG_of (List.mem_of_getElem? (i := 796) rfl) rfl
set_option maxRecDepth 20000 in
theorem mw_773 : Jvm.Cond.fieldLink "PeelRibbonsModel" (48 : Nat) "PeelRibbonsModel" "chosen" "[I" ∈ gG := gG_of (List.mem_of_getElem? (i := 797) rfl) rfl
set_option maxRecDepth 20000 in
theorem mw_774 : Jvm.Cond.fieldLink "PeelRibbonsModel" (51 : Nat) "PeelRibbonsModel" "begins" "[I" ∈ gG := gG_of (List.mem_of_getElem? (i := 798) rfl) rfl
set_option maxRecDepth 20000 in
theorem mw_775 : Jvm.Cond.fieldLink "PeelRibbonsModel" (143 : Nat) "PeelRibbonsModel" "many" "I" ∈ gG := gG_of (List.mem_of_getElem? (i := 799) rfl) rfl
set_option maxRecDepth 20000 in
theorem mw_776 : Jvm.Cond.fieldLink "PeelRibbonsModel" (54 : Nat) "PeelRibbonsModel" "knifeRadii" "[I" ∈ gG := gG_of (List.mem_of_getElem? (i := 800) rfl) rfl
set_option maxRecDepth 20000 in
theorem mw_777 : Jvm.Cond.fieldLink "PeelRibbonsModel" (57 : Nat) "PeelRibbonsModel" "knifeAngles" "[I" ∈ gG := gG_of (List.mem_of_getElem? (i := 801) rfl) rfl
set_option maxRecDepth 20000 in
theorem mw_778 : Jvm.Cond.fieldLink "PeelRibbonsModel" (146 : Nat) "PeelRibbonsModel" "rows" "I" ∈ gG := gG_of (List.mem_of_getElem? (i := 802) rfl) rfl
set_option maxRecDepth 20000 in
theorem mw_852 : Jvm.Cond.methodLink "PeelRibbonsModel" (73 : Nat) ({ cls := "PeelRibbonsModel", name := "isIn", desc := "(III)Z" } : Jvm.MethodName) ∈ gG := gG_of (List.mem_of_getElem? (i := 876) rfl) rfl
set_option maxRecDepth 20000 in
theorem mw_853 : Jvm.Cond.static ({ cls := "PeelRibbonsModel", name := "isIn", desc := "(III)Z" } : Jvm.MethodName) ∈ gG := gG_of (List.mem_of_getElem? (i := 877) rfl) rfl
set_option maxRecDepth 20000 in
theorem mw_859 : Jvm.Cond.methodLink "PeelRibbonsModel" (106 : Nat) ({ cls := "PeelRibbonsModel", name := "know", desc := "()V" } : Jvm.MethodName) ∈ gG := gG_of (List.mem_of_getElem? (i := 883) rfl) rfl
set_option maxRecDepth 20000 in
theorem mw_861 : Jvm.Cond.instanceMethod ({ cls := "PeelRibbonsModel", name := "know", desc := "()V" } : Jvm.MethodName) ∈ gG := gG_of (List.mem_of_getElem? (i := 885) rfl) rfl
set_option maxRecDepth 20000 in
theorem mw_863 : Jvm.Cond.methodLink "PeelRibbonsModel" (96 : Nat) ({ cls := "PeelRibbonsModel", name := "square", desc := "(III)I" } : Jvm.MethodName) ∈ gG := gG_of (List.mem_of_getElem? (i := 887) rfl) rfl
set_option maxRecDepth 20000 in
theorem mw_865 : Jvm.Cond.instanceMethod ({ cls := "PeelRibbonsModel", name := "square", desc := "(III)I" } : Jvm.MethodName) ∈ gG := gG_of (List.mem_of_getElem? (i := 889) rfl) rfl
set_option maxRecDepth 20000 in
theorem mw_867 : Jvm.Cond.methodLink "PeelRibbonsModel" (87 : Nat) ({ cls := "PeelRibbonsModel", name := "less", desc := "(II)I" } : Jvm.MethodName) ∈ gG := gG_of (List.mem_of_getElem? (i := 891) rfl) rfl
set_option maxRecDepth 20000 in
theorem mw_868 : Jvm.Cond.static ({ cls := "PeelRibbonsModel", name := "less", desc := "(II)I" } : Jvm.MethodName) ∈ gG := gG_of (List.mem_of_getElem? (i := 892) rfl) rfl
set_option maxRecDepth 20000 in
theorem mw_870 : Jvm.Cond.methodLink "PeelRibbonsModel" (91 : Nat) ({ cls := "PeelRibbonsModel", name := "off", desc := "(III)I" } : Jvm.MethodName) ∈ gG := gG_of (List.mem_of_getElem? (i := 894) rfl) rfl
set_option maxRecDepth 20000 in
theorem mw_871 : Jvm.Cond.static ({ cls := "PeelRibbonsModel", name := "off", desc := "(III)I" } : Jvm.MethodName) ∈ gG := gG_of (List.mem_of_getElem? (i := 895) rfl) rfl
set_option maxRecDepth 20000 in
theorem mw_873 : Jvm.Cond.methodLink "PeelRibbonsModel" (102 : Nat) ({ cls := "PeelRibbonsModel", name := "roomAt", desc := "(IIII)I" } : Jvm.MethodName) ∈ gG := gG_of (List.mem_of_getElem? (i := 897) rfl) rfl
set_option maxRecDepth 20000 in
theorem mw_875 : Jvm.Cond.instanceMethod ({ cls := "PeelRibbonsModel", name := "roomAt", desc := "(IIII)I" } : Jvm.MethodName) ∈ gG := gG_of (List.mem_of_getElem? (i := 899) rfl) rfl
set_option maxRecDepth 20000 in
theorem mw_877 : Jvm.Cond.constant "PeelRibbonsModel" (95 : Nat) (1000000 : Int32) ∈ gG := gG_of (List.mem_of_getElem? (i := 901) rfl) rfl
set_option maxRecDepth 20000 in
theorem mw_883 : Jvm.Cond.instanceMethod ({ cls := "PeelRibbonsModel", name := "radius", desc := "()I" } : Jvm.MethodName) ∈ gG := gG_of (List.mem_of_getElem? (i := 907) rfl) rfl
set_option maxRecDepth 20000 in
theorem mw_884 : Jvm.Cond.selects "PeelRibbonsModel" ({ cls := "PeelRibbonsModel", name := "radius", desc := "()I" } : Jvm.MethodName) ({ cls := "PeelRibbonsModel", name := "radius", desc := "()I" } : Jvm.MethodName) ∈ gG := gG_of (List.mem_of_getElem? (i := 908) rfl) rfl
set_option maxRecDepth 20000 in
theorem mw_894 : Jvm.Cond.methodLink "PeelRibbonsModel" (109 : Nat) ({ cls := "PeelRibbonsModel", name := "radius", desc := "()I" } : Jvm.MethodName) ∈ gG := gG_of (List.mem_of_getElem? (i := 918) rfl) rfl
set_option maxRecDepth 20000 in
theorem mw_899 : Jvm.Cond.methodLink "PeelRibbonsModel" (121 : Nat) ({ cls := "PeelRibbonsModel", name := "beforeTurn", desc := "(I)I" } : Jvm.MethodName) ∈ gG := gG_of (List.mem_of_getElem? (i := 923) rfl) rfl
set_option maxRecDepth 20000 in
theorem mw_901 : Jvm.Cond.instanceMethod ({ cls := "PeelRibbonsModel", name := "beforeTurn", desc := "(I)I" } : Jvm.MethodName) ∈ gG := gG_of (List.mem_of_getElem? (i := 925) rfl) rfl
set_option maxRecDepth 20000 in
theorem mw_911 : Jvm.Cond.methodLink "PeelRibbonsModel" (128 : Nat) ({ cls := "PeelRibbonsModel", name := "placeOf", desc := "(I)I" } : Jvm.MethodName) ∈ gG := gG_of (List.mem_of_getElem? (i := 935) rfl) rfl
set_option maxRecDepth 20000 in
theorem mw_913 : Jvm.Cond.instanceMethod ({ cls := "PeelRibbonsModel", name := "placeOf", desc := "(I)I" } : Jvm.MethodName) ∈ gG := gG_of (List.mem_of_getElem? (i := 937) rfl) rfl
set_option maxRecDepth 20000 in
theorem mw_927 : Jvm.Cond.methodLink "PeelRibbonsModel" (137 : Nat) ({ cls := "PeelRibbonsModel", name := "fits", desc := "(II)Z" } : Jvm.MethodName) ∈ gG := gG_of (List.mem_of_getElem? (i := 951) rfl) rfl
set_option maxRecDepth 20000 in
theorem mw_929 : Jvm.Cond.instanceMethod ({ cls := "PeelRibbonsModel", name := "fits", desc := "(II)Z" } : Jvm.MethodName) ∈ gG := gG_of (List.mem_of_getElem? (i := 953) rfl) rfl
set_option maxRecDepth 20000 in
theorem mw_931 : Jvm.Cond.methodLink "PeelRibbonsModel" (141 : Nat) ({ cls := "PeelRibbonsModel", name := "side", desc := "(II)I" } : Jvm.MethodName) ∈ gG := gG_of (List.mem_of_getElem? (i := 955) rfl) rfl
set_option maxRecDepth 20000 in
theorem mw_933 : Jvm.Cond.instanceMethod ({ cls := "PeelRibbonsModel", name := "side", desc := "(II)I" } : Jvm.MethodName) ∈ gG := gG_of (List.mem_of_getElem? (i := 957) rfl) rfl
theorem mc_261 : Cond.constant "PeelRibbons$Slices" 68 (iI 2147483647) ∈ gG := by
  rw [show iI 2147483647 = (2147483647 : Int32) from by decide]
  exact mw_261
theorem mc_295 : Cond.constant "PeelRibbons$Axes" 54 (iI 2147483647) ∈ gG := by
  rw [show iI 2147483647 = (2147483647 : Int32) from by decide]
  exact mw_295
theorem mc_565 : Cond.constant "PeelRibbons" 161 (iI 1000000) ∈ gG := by
  rw [show iI 1000000 = (1000000 : Int32) from by decide]
  exact mw_565
theorem mc_649 : Cond.constantLong "PeelRibbons$Clipping" 99 (lI 2001) ∈ gG := by
  rw [show lI 2001 = (2001 : Int64) from by decide]
  exact mw_649
theorem mc_877 : Cond.constant "PeelRibbonsModel" 95 (iI 1000000) ∈ gG := by
  rw [show iI 1000000 = (1000000 : Int32) from by decide]
  exact mw_877
set_option maxRecDepth 20000 in
theorem mk_max : Cond.code Lib.Math.max.name Lib.Math.max.code 2 (some .int) ∈ gG := gG_of (List.mem_of_getElem? (i := 59) rfl) rfl
set_option maxRecDepth 20000 in
theorem mk_min : Cond.code Lib.Math.min.name Lib.Math.min.code 2 (some .int) ∈ gG := gG_of (List.mem_of_getElem? (i := 56) rfl) rfl
set_option maxRecDepth 20000 in
theorem ps_0 : Cond.selects "PeelRibbons$Axes" ⟨"PeelRibbons$Axes", "seekIfStale", "()V"⟩ ⟨"PeelRibbons$Axes", "seekIfStale", "()V"⟩ ∈ gG := gG_of (List.mem_of_getElem? (i := 0) rfl) rfl
set_option maxRecDepth 20000 in
theorem ps_1 : Cond.selects "PeelRibbons$Slices" ⟨"PeelRibbons$Slices", "measure", "(I)V"⟩ ⟨"PeelRibbons$Slices", "measure", "(I)V"⟩ ∈ gG := gG_of (List.mem_of_getElem? (i := 1) rfl) rfl
set_option maxRecDepth 20000 in
theorem ps_2 : Cond.selects "PeelRibbons$Slices" ⟨"PeelRibbons$Slices", "nearestInColumnOf", "(III)I"⟩ ⟨"PeelRibbons$Slices", "nearestInColumnOf", "(III)I"⟩ ∈ gG := gG_of (List.mem_of_getElem? (i := 2) rfl) rfl
set_option maxRecDepth 20000 in
theorem ps_3 : Cond.selects "PeelRibbons$Slices" ⟨"PeelRibbons$Slices", "indexOf", "(III)I"⟩ ⟨"PeelRibbons$Slices", "indexOf", "(III)I"⟩ ∈ gG := gG_of (List.mem_of_getElem? (i := 3) rfl) rfl
set_option maxRecDepth 20000 in
theorem ps_4 : Cond.selects "PeelRibbons$Slices" ⟨"PeelRibbons$Slices", "gap", "(II)I"⟩ ⟨"PeelRibbons$Slices", "gap", "(II)I"⟩ ∈ gG := gG_of (List.mem_of_getElem? (i := 4) rfl) rfl
set_option maxRecDepth 20000 in
theorem ps_5 : Cond.selects "PeelRibbons$Slices" ⟨"PeelRibbons$Slices", "nearestOverColumns", "(I)I"⟩ ⟨"PeelRibbons$Slices", "nearestOverColumns", "(I)I"⟩ ∈ gG := gG_of (List.mem_of_getElem? (i := 5) rfl) rfl
set_option maxRecDepth 20000 in
theorem ps_6 : Cond.selects "PeelRibbons$Axes" ⟨"PeelRibbons$Axes", "seek", "()V"⟩ ⟨"PeelRibbons$Axes", "seek", "()V"⟩ ∈ gG := gG_of (List.mem_of_getElem? (i := 6) rfl) rfl
set_option maxRecDepth 20000 in
theorem ps_7 : Cond.selects "PeelRibbons$Axes" ⟨"PeelRibbons$Axes", "keep", "(IIIII)V"⟩ ⟨"PeelRibbons$Axes", "keep", "(IIIII)V"⟩ ∈ gG := gG_of (List.mem_of_getElem? (i := 7) rfl) rfl
set_option maxRecDepth 20000 in
theorem ps_8 : Cond.selects "PeelRibbons$Axes" ⟨"PeelRibbons$Axes", "seekFrom", "(II)V"⟩ ⟨"PeelRibbons$Axes", "seekFrom", "(II)V"⟩ ∈ gG := gG_of (List.mem_of_getElem? (i := 8) rfl) rfl
set_option maxRecDepth 20000 in
theorem ps_9 : Cond.selects "PeelRibbons$Axes" ⟨"PeelRibbons$Axes", "roomAbove", "(IIIII)I"⟩ ⟨"PeelRibbons$Axes", "roomAbove", "(IIIII)I"⟩ ∈ gG := gG_of (List.mem_of_getElem? (i := 9) rfl) rfl
set_option maxRecDepth 20000 in
theorem ps_10 : Cond.selects "PeelRibbons$Axes" ⟨"PeelRibbons$Axes", "placeAt", "(III)I"⟩ ⟨"PeelRibbons$Axes", "placeAt", "(III)I"⟩ ∈ gG := gG_of (List.mem_of_getElem? (i := 10) rfl) rfl
set_option maxRecDepth 20000 in
theorem ps_12 : Cond.selects "PeelRibbons$Clipping" ⟨"PeelRibbons$Clipping", "markFaults", "(LPeelRibbons$Ribbon;LPeelRibbons$Faults;I)V"⟩ ⟨"PeelRibbons$Clipping", "markFaults", "(LPeelRibbons$Ribbon;LPeelRibbons$Faults;I)V"⟩ ∈ gG := gG_of (List.mem_of_getElem? (i := 12) rfl) rfl
set_option maxRecDepth 20000 in
theorem ps_13 : Cond.selects "PeelRibbons$Clipping" ⟨"PeelRibbons$Clipping", "chooseFromTheEnd", "(LPeelRibbons$Leaves;)V"⟩ ⟨"PeelRibbons$Clipping", "chooseFromTheEnd", "(LPeelRibbons$Leaves;)V"⟩ ∈ gG := gG_of (List.mem_of_getElem? (i := 13) rfl) rfl
set_option maxRecDepth 20000 in
theorem ps_14 : Cond.selects "PeelRibbons$Clipping" ⟨"PeelRibbons$Clipping", "chooseAt", "(ILPeelRibbons$Leaves;)V"⟩ ⟨"PeelRibbons$Clipping", "chooseAt", "(ILPeelRibbons$Leaves;)V"⟩ ∈ gG := gG_of (List.mem_of_getElem? (i := 14) rfl) rfl
set_option maxRecDepth 20000 in
theorem ps_15 : Cond.selects "PeelRibbons$Clipping" ⟨"PeelRibbons$Clipping", "tryLeaf", "(IIJ)V"⟩ ⟨"PeelRibbons$Clipping", "tryLeaf", "(IIJ)V"⟩ ∈ gG := gG_of (List.mem_of_getElem? (i := 15) rfl) rfl
set_option maxRecDepth 20000 in
theorem ps_16 : Cond.selects "PeelRibbons$Clipping" ⟨"PeelRibbons$Clipping", "listFromTheBegin", "(LPeelRibbons$Leaves;)V"⟩ ⟨"PeelRibbons$Clipping", "listFromTheBegin", "(LPeelRibbons$Leaves;)V"⟩ ∈ gG := gG_of (List.mem_of_getElem? (i := 16) rfl) rfl
set_option maxRecDepth 20000 in
theorem ps_17 : Cond.selects "PeelRibbonsModel" ⟨"PeelRibbonsModel", "know", "()V"⟩ ⟨"PeelRibbonsModel", "know", "()V"⟩ ∈ gG := gG_of (List.mem_of_getElem? (i := 17) rfl) rfl
set_option maxRecDepth 20000 in
theorem ps_18 : Cond.selects "PeelRibbonsModel" ⟨"PeelRibbonsModel", "square", "(III)I"⟩ ⟨"PeelRibbonsModel", "square", "(III)I"⟩ ∈ gG := gG_of (List.mem_of_getElem? (i := 18) rfl) rfl
set_option maxRecDepth 20000 in
theorem ps_19 : Cond.selects "PeelRibbonsModel" ⟨"PeelRibbonsModel", "roomAt", "(IIII)I"⟩ ⟨"PeelRibbonsModel", "roomAt", "(IIII)I"⟩ ∈ gG := gG_of (List.mem_of_getElem? (i := 19) rfl) rfl
set_option maxRecDepth 20000 in
theorem ps_20 : Cond.selects "PeelRibbonsModel" ⟨"PeelRibbonsModel", "beforeTurn", "(I)I"⟩ ⟨"PeelRibbonsModel", "beforeTurn", "(I)I"⟩ ∈ gG := gG_of (List.mem_of_getElem? (i := 20) rfl) rfl
set_option maxRecDepth 20000 in
theorem ps_21 : Cond.selects "PeelRibbonsModel" ⟨"PeelRibbonsModel", "placeOf", "(I)I"⟩ ⟨"PeelRibbonsModel", "placeOf", "(I)I"⟩ ∈ gG := gG_of (List.mem_of_getElem? (i := 21) rfl) rfl
set_option maxRecDepth 20000 in
theorem ps_22 : Cond.selects "PeelRibbonsModel" ⟨"PeelRibbonsModel", "fits", "(II)Z"⟩ ⟨"PeelRibbonsModel", "fits", "(II)Z"⟩ ∈ gG := gG_of (List.mem_of_getElem? (i := 22) rfl) rfl
set_option maxRecDepth 20000 in
theorem ps_23 : Cond.selects "PeelRibbonsModel" ⟨"PeelRibbonsModel", "side", "(II)I"⟩ ⟨"PeelRibbonsModel", "side", "(II)I"⟩ ∈ gG := gG_of (List.mem_of_getElem? (i := 23) rfl) rfl
def nsG : List (String × Nat × MethodName × String) := [("PeelRibbons", 33, ⟨"PeelRibbons$Ribbon", "<init>", "()V"⟩, "PeelRibbons"), ("PeelRibbons", 40, ⟨"PeelRibbons$Faults", "<init>", "()V"⟩, "PeelRibbons"), ("PeelRibbons", 47, ⟨"PeelRibbons$Leaves", "<init>", "()V"⟩, "PeelRibbons"), ("PeelRibbons", 54, ⟨"PeelRibbons$Clipping", "<init>", "()V"⟩, "PeelRibbons"), ("PeelRibbons", 61, ⟨"PeelRibbons$KnifeRows", "<init>", "()V"⟩, "PeelRibbons"), ("PeelRibbons$Slices", 45, ⟨"PeelRibbons", "isWithin", "(III)Z"⟩, "PeelRibbons"), ("PeelRibbons$Faults", 23, ⟨"PeelRibbons", "isWithin", "(III)Z"⟩, "PeelRibbons"), ("PeelRibbons$Leaves", 23, ⟨"PeelRibbons", "isWithin", "(III)Z"⟩, "PeelRibbons")]
