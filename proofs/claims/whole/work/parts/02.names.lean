def gG : List Cond := lw_tbl.filter goodWord
theorem gG_of {w : Cond} (h : w ∈ lw_tbl) (hg : goodWord w = true) : w ∈ gG := List.mem_filter.mpr ⟨h, hg⟩
theorem gG_in {cx w : Cond} (h : w ∈ gG) : w ∈ cx :: gG := List.mem_cons_of_mem _ h
theorem gG_good {cx cy : Cond} (h : cy ∈ gG) : GoodIn (cx :: gG) (cy :: gG) := fun w hw => by
  have h1 : w ∈ gG := (List.mem_cons.mp hw).elim (fun e => by rw [e]; exact h) id
  exact ⟨List.mem_cons_of_mem _ h1, good_of_word (List.mem_filter.mp h1).2⟩
def R_P : String := "PeelRibbons"
def T_P : u_T := fun k => match k with
  | 0 => ("PeelRibbons", "slices", "LPeelRibbons$Slices;", true)
  | 1 => ("PeelRibbons", "axes", "LPeelRibbons$Axes;", true)
  | 2 => ("PeelRibbons", "ribbon", "LPeelRibbons$Ribbon;", true)
  | 3 => ("PeelRibbons", "faults", "LPeelRibbons$Faults;", true)
  | 4 => ("PeelRibbons", "leaves", "LPeelRibbons$Leaves;", true)
  | 5 => ("PeelRibbons", "clipping", "LPeelRibbons$Clipping;", true)
  | _ => ("PeelRibbons", "knifeRows", "LPeelRibbons$KnifeRows;", true)
def ty_P : Nat → FieldType := fun k => match k with
  | 0 => .object "PeelRibbons$Slices"
  | 1 => .object "PeelRibbons$Axes"
  | 2 => .object "PeelRibbons$Ribbon"
  | 3 => .object "PeelRibbons$Faults"
  | 4 => .object "PeelRibbons$Leaves"
  | 5 => .object "PeelRibbons$Clipping"
  | _ => .object "PeelRibbons$KnifeRows"
theorem nm_P : ∀ a, a < 7 → ∀ b, b < 7 → a ≠ b → (T_P a).2.1 ≠ (T_P b).2.1 := by decide +kernel
theorem tk_P : ∀ k, k < 7 → parseFieldDescriptor (T_P k).2.2.1 = some (ty_P k) := by decide +kernel
theorem inG_P : ∀ w ∈ u_ws R_P T_P 7, w ∈ gG := by decide +kernel
def R_S : String := "PeelRibbons$Slices"
def T_S : u_T := fun k => match k with
  | 0 => ("PeelRibbons$Slices", "count", "I", true)
  | 1 => ("PeelRibbons$Slices", "side", "I", true)
  | 2 => ("PeelRibbons$Slices", "parts", "I", true)
  | 3 => ("PeelRibbons$Slices", "reach", "I", true)
  | 4 => ("PeelRibbons$Slices", "span", "I", true)
  | 5 => ("PeelRibbons$Slices", "in", "[Z", true)
  | 6 => ("PeelRibbons$Slices", "nearest", "[I", true)
  | 7 => ("PeelRibbons$Slices", "isStale", "[Z", true)
  | _ => ("PeelRibbons$Slices", "nearestInColumn", "[I", true)
def ty_S : Nat → FieldType := fun k => match k with
  | 0 => .int
  | 1 => .int
  | 2 => .int
  | 3 => .int
  | 4 => .int
  | 5 => .array .boolean
  | 6 => .array .int
  | 7 => .array .boolean
  | _ => .array .int
theorem nm_S : ∀ a, a < 9 → ∀ b, b < 9 → a ≠ b → (T_S a).2.1 ≠ (T_S b).2.1 := by decide +kernel
theorem tk_S : ∀ k, k < 9 → parseFieldDescriptor (T_S k).2.2.1 = some (ty_S k) := by decide +kernel
theorem inG_S : ∀ w ∈ u_ws R_S T_S 9, w ∈ gG := by decide +kernel
def R_A : String := "PeelRibbons$Axes"
def T_A : u_T := fun k => match k with
  | 0 => ("PeelRibbons$Axes", "slices", "LPeelRibbons$Slices;", true)
  | 1 => ("PeelRibbons$Axes", "side", "I", true)
  | 2 => ("PeelRibbons$Axes", "parts", "I", true)
  | 3 => ("PeelRibbons$Axes", "numbers", "[I", true)
  | 4 => ("PeelRibbons$Axes", "room", "I", false)
  | _ => ("PeelRibbons$Axes", "isStale", "Z", false)
def ty_A : Nat → FieldType := fun k => match k with
  | 0 => .object "PeelRibbons$Slices"
  | 1 => .int
  | 2 => .int
  | 3 => .array .int
  | 4 => .int
  | _ => .boolean
theorem nm_A : ∀ a, a < 6 → ∀ b, b < 6 → a ≠ b → (T_A a).2.1 ≠ (T_A b).2.1 := by decide +kernel
theorem tk_A : ∀ k, k < 6 → parseFieldDescriptor (T_A k).2.2.1 = some (ty_A k) := by decide +kernel
theorem inG_A : ∀ w ∈ u_ws R_A T_A 6, w ∈ gG := by decide +kernel
def R_R : String := "PeelRibbons$Ribbon"
def T_R : u_T := fun k => match k with
  | 0 => ("PeelRibbons$Ribbon", "isPeeled", "Z", false)
  | 1 => ("PeelRibbons$Ribbon", "radius", "I", false)
  | 2 => ("PeelRibbons$Ribbon", "thick", "I", false)
  | _ => ("PeelRibbons$Ribbon", "turns", "I", false)
def ty_R : Nat → FieldType := fun k => match k with
  | 0 => .boolean
  | 1 => .int
  | 2 => .int
  | _ => .int
theorem nm_R : ∀ a, a < 4 → ∀ b, b < 4 → a ≠ b → (T_R a).2.1 ≠ (T_R b).2.1 := by decide +kernel
theorem tk_R : ∀ k, k < 4 → parseFieldDescriptor (T_R k).2.2.1 = some (ty_R k) := by decide +kernel
theorem inG_R : ∀ w ∈ u_ws R_R T_R 4, w ∈ gG := by decide +kernel
def R_F : String := "PeelRibbons$Faults"
def T_F : u_T := fun k => match k with
  | 0 => ("PeelRibbons$Faults", "angles", "[I", true)
  | 1 => ("PeelRibbons$Faults", "radii", "[I", true)
  | 2 => ("PeelRibbons$Faults", "kinds", "[I", true)
  | _ => ("PeelRibbons$Faults", "count", "I", false)
def ty_F : Nat → FieldType := fun k => match k with
  | 0 => .array .int
  | 1 => .array .int
  | 2 => .array .int
  | _ => .int
theorem nm_F : ∀ a, a < 4 → ∀ b, b < 4 → a ≠ b → (T_F a).2.1 ≠ (T_F b).2.1 := by decide +kernel
theorem tk_F : ∀ k, k < 4 → parseFieldDescriptor (T_F k).2.2.1 = some (ty_F k) := by decide +kernel
theorem inG_F : ∀ w ∈ u_ws R_F T_F 4, w ∈ gG := by decide +kernel
def R_L : String := "PeelRibbons$Leaves"
def T_L : u_T := fun k => match k with
  | 0 => ("PeelRibbons$Leaves", "widths", "[I", true)
  | 1 => ("PeelRibbons$Leaves", "worths", "[I", true)
  | 2 => ("PeelRibbons$Leaves", "barredBits", "[I", true)
  | _ => ("PeelRibbons$Leaves", "count", "I", false)
def ty_L : Nat → FieldType := fun k => match k with
  | 0 => .array .int
  | 1 => .array .int
  | 2 => .array .int
  | _ => .int
theorem nm_L : ∀ a, a < 4 → ∀ b, b < 4 → a ≠ b → (T_L a).2.1 ≠ (T_L b).2.1 := by decide +kernel
theorem tk_L : ∀ k, k < 4 → parseFieldDescriptor (T_L k).2.2.1 = some (ty_L k) := by decide +kernel
theorem inG_L : ∀ w ∈ u_ws R_L T_L 4, w ∈ gG := by decide +kernel
def R_C : String := "PeelRibbons$Clipping"
def T_C : u_T := fun k => match k with
  | 0 => ("PeelRibbons$Clipping", "kindBitsAt", "[I", true)
  | 1 => ("PeelRibbons$Clipping", "bestFrom", "[J", true)
  | 2 => ("PeelRibbons$Clipping", "choiceAt", "[I", true)
  | 3 => ("PeelRibbons$Clipping", "firstSteps", "[I", true)
  | 4 => ("PeelRibbons$Clipping", "clearUntil", "[I", true)
  | 5 => ("PeelRibbons$Clipping", "isDone", "Z", false)
  | 6 => ("PeelRibbons$Clipping", "steps", "I", false)
  | 7 => ("PeelRibbons$Clipping", "count", "I", false)
  | 8 => ("PeelRibbons$Clipping", "worth", "I", false)
  | _ => ("PeelRibbons$Clipping", "waste", "I", false)
def ty_C : Nat → FieldType := fun k => match k with
  | 0 => .array .int
  | 1 => .array .long
  | 2 => .array .int
  | 3 => .array .int
  | 4 => .array .int
  | 5 => .boolean
  | 6 => .int
  | 7 => .int
  | 8 => .int
  | _ => .int
theorem nm_C : ∀ a, a < 10 → ∀ b, b < 10 → a ≠ b → (T_C a).2.1 ≠ (T_C b).2.1 := by decide +kernel
theorem tk_C : ∀ k, k < 10 → parseFieldDescriptor (T_C k).2.2.1 = some (ty_C k) := by decide +kernel
theorem inG_C : ∀ w ∈ u_ws R_C T_C 10, w ∈ gG := by decide +kernel
def R_K : String := "PeelRibbons$KnifeRows"
def T_K : u_T := fun k => match k with
  | 0 => ("PeelRibbons$KnifeRows", "radii", "[I", true)
  | 1 => ("PeelRibbons$KnifeRows", "angles", "[I", true)
  | _ => ("PeelRibbons$KnifeRows", "count", "I", false)
def ty_K : Nat → FieldType := fun k => match k with
  | 0 => .array .int
  | 1 => .array .int
  | _ => .int
theorem nm_K : ∀ a, a < 3 → ∀ b, b < 3 → a ≠ b → (T_K a).2.1 ≠ (T_K b).2.1 := by decide +kernel
theorem tk_K : ∀ k, k < 3 → parseFieldDescriptor (T_K k).2.2.1 = some (ty_K k) := by decide +kernel
theorem inG_K : ∀ w ∈ u_ws R_K T_K 3, w ∈ gG := by decide +kernel
def R_M : String := "PeelRibbonsModel"
def T_M : u_T := fun k => match k with
  | 0 => ("PeelRibbonsModel", "thrown", "I", false)
  | 1 => ("PeelRibbonsModel", "slices", "I", false)
  | 2 => ("PeelRibbonsModel", "side", "I", false)
  | 3 => ("PeelRibbonsModel", "parts", "I", false)
  | 4 => ("PeelRibbonsModel", "in", "[Z", true)
  | 5 => ("PeelRibbonsModel", "squares", "[I", true)
  | 6 => ("PeelRibbonsModel", "known", "Z", false)
  | 7 => ("PeelRibbonsModel", "room", "I", false)
  | 8 => ("PeelRibbonsModel", "axis", "[I", true)
  | 9 => ("PeelRibbonsModel", "peeled", "Z", false)
  | 10 => ("PeelRibbonsModel", "thick", "I", false)
  | 11 => ("PeelRibbonsModel", "turns", "I", false)
  | 12 => ("PeelRibbonsModel", "radius", "I", false)
  | 13 => ("PeelRibbonsModel", "angles", "[I", true)
  | 14 => ("PeelRibbonsModel", "radii", "[I", true)
  | 15 => ("PeelRibbonsModel", "kinds", "[I", true)
  | 16 => ("PeelRibbonsModel", "faults", "I", false)
  | 17 => ("PeelRibbonsModel", "widths", "[I", true)
  | 18 => ("PeelRibbonsModel", "worths", "[I", true)
  | 19 => ("PeelRibbonsModel", "barred", "[I", true)
  | 20 => ("PeelRibbonsModel", "leaves", "I", false)
  | 21 => ("PeelRibbonsModel", "clipped", "Z", false)
  | 22 => ("PeelRibbonsModel", "steps", "I", false)
  | 23 => ("PeelRibbonsModel", "marks", "[I", true)
  | 24 => ("PeelRibbonsModel", "best", "[J", true)
  | 25 => ("PeelRibbonsModel", "waste", "[I", true)
  | 26 => ("PeelRibbonsModel", "chosen", "[I", true)
  | 27 => ("PeelRibbonsModel", "begins", "[I", true)
  | 28 => ("PeelRibbonsModel", "many", "I", false)
  | 29 => ("PeelRibbonsModel", "knifeRadii", "[I", true)
  | 30 => ("PeelRibbonsModel", "knifeAngles", "[I", true)
  | _ => ("PeelRibbonsModel", "rows", "I", false)
def ty_M : Nat → FieldType := fun k => match k with
  | 0 => .int
  | 1 => .int
  | 2 => .int
  | 3 => .int
  | 4 => .array .boolean
  | 5 => .array .int
  | 6 => .boolean
  | 7 => .int
  | 8 => .array .int
  | 9 => .boolean
  | 10 => .int
  | 11 => .int
  | 12 => .int
  | 13 => .array .int
  | 14 => .array .int
  | 15 => .array .int
  | 16 => .int
  | 17 => .array .int
  | 18 => .array .int
  | 19 => .array .int
  | 20 => .int
  | 21 => .boolean
  | 22 => .int
  | 23 => .array .int
  | 24 => .array .long
  | 25 => .array .int
  | 26 => .array .int
  | 27 => .array .int
  | 28 => .int
  | 29 => .array .int
  | 30 => .array .int
  | _ => .int
theorem nm_M : ∀ a, a < 32 → ∀ b, b < 32 → a ≠ b → (T_M a).2.1 ≠ (T_M b).2.1 := by decide +kernel
theorem tk_M : ∀ k, k < 32 → parseFieldDescriptor (T_M k).2.2.1 = some (ty_M k) := by decide +kernel
theorem inG_M : ∀ w ∈ u_ws R_M T_M 32, w ∈ gG := by decide +kernel
abbrev vwC : List vw_C := [(R_P, T_P, 7), (R_S, T_S, 9), (R_A, T_A, 6), (R_R, T_R, 4), (R_F, T_F, 4), (R_L, T_L, 4), (R_C, T_C, 10), (R_K, T_K, 3), (R_M, T_M, 32)]
def R_W : String := "PeelRibbonsLaw"
abbrev b_P_init : ByteArray := prog_1_method_1_code
def y_P_init : MethodName := ⟨R_P, "<init>", "(II)V"⟩
set_option maxRecDepth 20000 in
theorem k_P_init : Cond.code y_P_init b_P_init 4 none ∈ gG := gG_of (List.mem_of_getElem? (i := 45) rfl) rfl
abbrev ws_P_init : List Cond := .code y_P_init b_P_init 4 none :: gG
abbrev b_P_cell : ByteArray := prog_1_method_2_code
def y_P_cell : MethodName := ⟨R_P, "cell", "(IIIZ)Z"⟩
set_option maxRecDepth 20000 in
theorem k_P_cell : Cond.code y_P_cell b_P_cell 6 (some .boolean) ∈ gG := gG_of (List.mem_of_getElem? (i := 350) rfl) rfl
abbrev ws_P_cell : List Cond := .code y_P_cell b_P_cell 6 (some .boolean) :: gG
abbrev b_P_room : ByteArray := prog_1_method_3_code
def y_P_room : MethodName := ⟨R_P, "room", "()I"⟩
set_option maxRecDepth 20000 in
theorem k_P_room : Cond.code y_P_room b_P_room 1 (some .int) ∈ gG := gG_of (List.mem_of_getElem? (i := 264) rfl) rfl
abbrev ws_P_room : List Cond := .code y_P_room b_P_room 1 (some .int) :: gG
abbrev b_P_axis : ByteArray := prog_1_method_4_code
def y_P_axis : MethodName := ⟨R_P, "axis", "(I)I"⟩
set_option maxRecDepth 20000 in
theorem k_P_axis : Cond.code y_P_axis b_P_axis 2 (some .int) ∈ gG := gG_of (List.mem_of_getElem? (i := 448) rfl) rfl
abbrev ws_P_axis : List Cond := .code y_P_axis b_P_axis 2 (some .int) :: gG
abbrev b_P_radius : ByteArray := prog_1_method_5_code
def y_P_radius : MethodName := ⟨R_P, "radius", "()I"⟩
set_option maxRecDepth 20000 in
theorem k_P_radius : Cond.code y_P_radius b_P_radius 1 (some .int) ∈ gG := gG_of (List.mem_of_getElem? (i := 332) rfl) rfl
abbrev ws_P_radius : List Cond := .code y_P_radius b_P_radius 1 (some .int) :: gG
abbrev b_P_roomOf : ByteArray := prog_1_method_6_code
def y_P_roomOf : MethodName := ⟨R_P, "roomOf", "(IIII)I"⟩
set_option maxRecDepth 20000 in
theorem k_P_roomOf : Cond.code y_P_roomOf b_P_roomOf 5 (some .int) ∈ gG := gG_of (List.mem_of_getElem? (i := 461) rfl) rfl
abbrev ws_P_roomOf : List Cond := .code y_P_roomOf b_P_roomOf 5 (some .int) :: gG
abbrev b_P_peel : ByteArray := prog_1_method_7_code
def y_P_peel : MethodName := ⟨R_P, "peel", "(II)I"⟩
set_option maxRecDepth 20000 in
theorem k_P_peel : Cond.code y_P_peel b_P_peel 3 (some .int) ∈ gG := gG_of (List.mem_of_getElem? (i := 478) rfl) rfl
abbrev ws_P_peel : List Cond := .code y_P_peel b_P_peel 3 (some .int) :: gG
abbrev b_P_before : ByteArray := prog_1_method_8_code
def y_P_before : MethodName := ⟨R_P, "before", "(I)I"⟩
set_option maxRecDepth 20000 in
theorem k_P_before : Cond.code y_P_before b_P_before 2 (some .int) ∈ gG := gG_of (List.mem_of_getElem? (i := 511) rfl) rfl
abbrev ws_P_before : List Cond := .code y_P_before b_P_before 2 (some .int) :: gG
abbrev b_P_fault : ByteArray := prog_1_method_9_code
def y_P_fault : MethodName := ⟨R_P, "fault", "(III)I"⟩
set_option maxRecDepth 20000 in
theorem k_P_fault : Cond.code y_P_fault b_P_fault 4 (some .int) ∈ gG := gG_of (List.mem_of_getElem? (i := 546) rfl) rfl
abbrev ws_P_fault : List Cond := .code y_P_fault b_P_fault 4 (some .int) :: gG
abbrev b_P_unrolled : ByteArray := prog_1_method_10_code
def y_P_unrolled : MethodName := ⟨R_P, "unrolled", "(I)I"⟩
set_option maxRecDepth 20000 in
theorem k_P_unrolled : Cond.code y_P_unrolled b_P_unrolled 2 (some .int) ∈ gG := gG_of (List.mem_of_getElem? (i := 566) rfl) rfl
abbrev ws_P_unrolled : List Cond := .code y_P_unrolled b_P_unrolled 2 (some .int) :: gG
abbrev b_P_leaf : ByteArray := prog_1_method_11_code
def y_P_leaf : MethodName := ⟨R_P, "leaf", "(II)I"⟩
set_option maxRecDepth 20000 in
theorem k_P_leaf : Cond.code y_P_leaf b_P_leaf 3 (some .int) ∈ gG := gG_of (List.mem_of_getElem? (i := 588) rfl) rfl
abbrev ws_P_leaf : List Cond := .code y_P_leaf b_P_leaf 3 (some .int) :: gG
abbrev b_P_bars : ByteArray := prog_1_method_12_code
def y_P_bars : MethodName := ⟨R_P, "bars", "(IIZ)Z"⟩
set_option maxRecDepth 20000 in
theorem k_P_bars : Cond.code y_P_bars b_P_bars 5 (some .boolean) ∈ gG := gG_of (List.mem_of_getElem? (i := 606) rfl) rfl
abbrev ws_P_bars : List Cond := .code y_P_bars b_P_bars 5 (some .boolean) :: gG
abbrev b_P_clip : ByteArray := prog_1_method_13_code
def y_P_clip : MethodName := ⟨R_P, "clip", "(I)I"⟩
set_option maxRecDepth 20000 in
theorem k_P_clip : Cond.code y_P_clip b_P_clip 2 (some .int) ∈ gG := gG_of (List.mem_of_getElem? (i := 627) rfl) rfl
abbrev ws_P_clip : List Cond := .code y_P_clip b_P_clip 2 (some .int) :: gG
abbrev b_P_at : ByteArray := prog_1_method_14_code
def y_P_at : MethodName := ⟨R_P, "at", "(II)I"⟩
set_option maxRecDepth 20000 in
theorem k_P_at : Cond.code y_P_at b_P_at 3 (some .int) ∈ gG := gG_of (List.mem_of_getElem? (i := 692) rfl) rfl
abbrev ws_P_at : List Cond := .code y_P_at b_P_at 3 (some .int) :: gG
abbrev b_P_clipped : ByteArray := prog_1_method_15_code
def y_P_clipped : MethodName := ⟨R_P, "clipped", "(I)I"⟩
set_option maxRecDepth 20000 in
theorem k_P_clipped : Cond.code y_P_clipped b_P_clipped 2 (some .int) ∈ gG := gG_of (List.mem_of_getElem? (i := 713) rfl) rfl
abbrev ws_P_clipped : List Cond := .code y_P_clipped b_P_clipped 2 (some .int) :: gG
abbrev b_P_shrink : ByteArray := prog_1_method_16_code
def y_P_shrink : MethodName := ⟨R_P, "shrink", "(III)I"⟩
set_option maxRecDepth 20000 in
theorem k_P_shrink : Cond.code y_P_shrink b_P_shrink 4 (some .int) ∈ gG := gG_of (List.mem_of_getElem? (i := 733) rfl) rfl
abbrev ws_P_shrink : List Cond := .code y_P_shrink b_P_shrink 4 (some .int) :: gG
abbrev b_P_row : ByteArray := prog_1_method_17_code
def y_P_row : MethodName := ⟨R_P, "row", "(II)Z"⟩
set_option maxRecDepth 20000 in
theorem k_P_row : Cond.code y_P_row b_P_row 3 (some .boolean) ∈ gG := gG_of (List.mem_of_getElem? (i := 743) rfl) rfl
abbrev ws_P_row : List Cond := .code y_P_row b_P_row 3 (some .boolean) :: gG
abbrev b_P_knife : ByteArray := prog_1_method_18_code
def y_P_knife : MethodName := ⟨R_P, "knife", "(I)I"⟩
set_option maxRecDepth 20000 in
theorem k_P_knife : Cond.code y_P_knife b_P_knife 2 (some .int) ∈ gG := gG_of (List.mem_of_getElem? (i := 759) rfl) rfl
abbrev ws_P_knife : List Cond := .code y_P_knife b_P_knife 2 (some .int) :: gG
abbrev b_P_nearestOf : ByteArray := prog_1_method_19_code
def y_P_nearestOf : MethodName := ⟨R_P, "nearestOf", "(III)I"⟩
set_option maxRecDepth 20000 in
theorem k_P_nearestOf : Cond.code y_P_nearestOf b_P_nearestOf 3 (some .int) ∈ gG := gG_of (List.mem_of_getElem? (i := 53) rfl) rfl
abbrev ws_P_nearestOf : List Cond := .code y_P_nearestOf b_P_nearestOf 3 (some .int) :: gG
abbrev b_P_isWithin : ByteArray := prog_1_method_20_code
def y_P_isWithin : MethodName := ⟨R_P, "isWithin", "(III)Z"⟩
set_option maxRecDepth 20000 in
theorem k_P_isWithin : Cond.code y_P_isWithin b_P_isWithin 3 (some .boolean) ∈ gG := gG_of (List.mem_of_getElem? (i := 357) rfl) rfl
abbrev ws_P_isWithin : List Cond := .code y_P_isWithin b_P_isWithin 3 (some .boolean) :: gG
abbrev b_P_isKind : ByteArray := prog_1_method_21_code
def y_P_isKind : MethodName := ⟨R_P, "isKind", "(I)Z"⟩
set_option maxRecDepth 20000 in
theorem k_P_isKind : Cond.code y_P_isKind b_P_isKind 1 (some .boolean) ∈ gG := gG_of (List.mem_of_getElem? (i := 549) rfl) rfl
abbrev ws_P_isKind : List Cond := .code y_P_isKind b_P_isKind 1 (some .boolean) :: gG
abbrev b_S_init : ByteArray := prog_8_method_1_code
def y_S_init : MethodName := ⟨R_S, "<init>", "(II)V"⟩
set_option maxRecDepth 20000 in
theorem k_S_init : Cond.code y_S_init b_S_init 4 none ∈ gG := gG_of (List.mem_of_getElem? (i := 62) rfl) rfl
abbrev ws_S_init : List Cond := .code y_S_init b_S_init 4 none :: gG
abbrev b_S_count : ByteArray := prog_8_method_2_code
def y_S_count : MethodName := ⟨R_S, "count", "()I"⟩
set_option maxRecDepth 20000 in
theorem k_S_count : Cond.code y_S_count b_S_count 1 (some .int) ∈ gG := gG_of (List.mem_of_getElem? (i := 323) rfl) rfl
abbrev ws_S_count : List Cond := .code y_S_count b_S_count 1 (some .int) :: gG
abbrev b_S_side : ByteArray := prog_8_method_3_code
def y_S_side : MethodName := ⟨R_S, "side", "()I"⟩
set_option maxRecDepth 20000 in
theorem k_S_side : Cond.code y_S_side b_S_side 1 (some .int) ∈ gG := gG_of (List.mem_of_getElem? (i := 104) rfl) rfl
abbrev ws_S_side : List Cond := .code y_S_side b_S_side 1 (some .int) :: gG
abbrev b_S_parts : ByteArray := prog_8_method_4_code
def y_S_parts : MethodName := ⟨R_S, "parts", "()I"⟩
set_option maxRecDepth 20000 in
theorem k_S_parts : Cond.code y_S_parts b_S_parts 1 (some .int) ∈ gG := gG_of (List.mem_of_getElem? (i := 108) rfl) rfl
abbrev ws_S_parts : List Cond := .code y_S_parts b_S_parts 1 (some .int) :: gG
abbrev b_S_hasCell : ByteArray := prog_8_method_5_code
def y_S_hasCell : MethodName := ⟨R_S, "hasCell", "(III)Z"⟩
set_option maxRecDepth 20000 in
theorem k_S_hasCell : Cond.code y_S_hasCell b_S_hasCell 4 (some .boolean) ∈ gG := gG_of (List.mem_of_getElem? (i := 354) rfl) rfl
abbrev ws_S_hasCell : List Cond := .code y_S_hasCell b_S_hasCell 4 (some .boolean) :: gG
abbrev b_S_hasCorner : ByteArray := prog_8_method_6_code
def y_S_hasCorner : MethodName := ⟨R_S, "hasCorner", "(II)Z"⟩
set_option maxRecDepth 20000 in
theorem k_S_hasCorner : Cond.code y_S_hasCorner b_S_hasCorner 3 (some .boolean) ∈ gG := gG_of (List.mem_of_getElem? (i := 465) rfl) rfl
abbrev ws_S_hasCorner : List Cond := .code y_S_hasCorner b_S_hasCorner 3 (some .boolean) :: gG
abbrev b_S_tell : ByteArray := prog_8_method_7_code
def y_S_tell : MethodName := ⟨R_S, "tell", "(IIIZ)Z"⟩
set_option maxRecDepth 20000 in
theorem k_S_tell : Cond.code y_S_tell b_S_tell 7 (some .boolean) ∈ gG := gG_of (List.mem_of_getElem? (i := 429) rfl) rfl
abbrev ws_S_tell : List Cond := .code y_S_tell b_S_tell 7 (some .boolean) :: gG
abbrev b_S_nearestAt : ByteArray := prog_8_method_8_code
def y_S_nearestAt : MethodName := ⟨R_S, "nearestAt", "(III)I"⟩
set_option maxRecDepth 20000 in
theorem k_S_nearestAt : Cond.code y_S_nearestAt b_S_nearestAt 4 (some .int) ∈ gG := gG_of (List.mem_of_getElem? (i := 310) rfl) rfl
abbrev ws_S_nearestAt : List Cond := .code y_S_nearestAt b_S_nearestAt 4 (some .int) :: gG
abbrev b_S_measureWhatChanged : ByteArray := prog_8_method_9_code
def y_S_measureWhatChanged : MethodName := ⟨R_S, "measureWhatChanged", "()V"⟩
set_option maxRecDepth 20000 in
theorem k_S_measureWhatChanged : Cond.code y_S_measureWhatChanged b_S_measureWhatChanged 2 none ∈ gG := gG_of (List.mem_of_getElem? (i := 276) rfl) rfl
abbrev ws_S_measureWhatChanged : List Cond := .code y_S_measureWhatChanged b_S_measureWhatChanged 2 none :: gG
abbrev b_S_measure : ByteArray := prog_8_method_10_code
def y_S_measure : MethodName := ⟨R_S, "measure", "(I)V"⟩
set_option maxRecDepth 20000 in
theorem k_S_measure : Cond.code y_S_measure b_S_measure 4 none ∈ gG := gG_of (List.mem_of_getElem? (i := 280) rfl) rfl
abbrev ws_S_measure : List Cond := .code y_S_measure b_S_measure 4 none :: gG
abbrev b_S_nearestInColumnOf : ByteArray := prog_8_method_11_code
def y_S_nearestInColumnOf : MethodName := ⟨R_S, "nearestInColumnOf", "(III)I"⟩
set_option maxRecDepth 20000 in
theorem k_S_nearestInColumnOf : Cond.code y_S_nearestInColumnOf b_S_nearestInColumnOf 7 (some .int) ∈ gG := gG_of (List.mem_of_getElem? (i := 284) rfl) rfl
abbrev ws_S_nearestInColumnOf : List Cond := .code y_S_nearestInColumnOf b_S_nearestInColumnOf 7 (some .int) :: gG
abbrev b_S_nearestOverColumns : ByteArray := prog_8_method_12_code
def y_S_nearestOverColumns : MethodName := ⟨R_S, "nearestOverColumns", "(I)I"⟩
set_option maxRecDepth 20000 in
theorem k_S_nearestOverColumns : Cond.code y_S_nearestOverColumns b_S_nearestOverColumns 5 (some .int) ∈ gG := gG_of (List.mem_of_getElem? (i := 298) rfl) rfl
abbrev ws_S_nearestOverColumns : List Cond := .code y_S_nearestOverColumns b_S_nearestOverColumns 5 (some .int) :: gG
abbrev b_S_indexOf : ByteArray := prog_8_method_13_code
def y_S_indexOf : MethodName := ⟨R_S, "indexOf", "(III)I"⟩
set_option maxRecDepth 20000 in
theorem k_S_indexOf : Cond.code y_S_indexOf b_S_indexOf 4 (some .int) ∈ gG := gG_of (List.mem_of_getElem? (i := 289) rfl) rfl
abbrev ws_S_indexOf : List Cond := .code y_S_indexOf b_S_indexOf 4 (some .int) :: gG
abbrev b_S_gap : ByteArray := prog_8_method_14_code
def y_S_gap : MethodName := ⟨R_S, "gap", "(II)I"⟩
set_option maxRecDepth 20000 in
theorem k_S_gap : Cond.code y_S_gap b_S_gap 5 (some .int) ∈ gG := gG_of (List.mem_of_getElem? (i := 293) rfl) rfl
abbrev ws_S_gap : List Cond := .code y_S_gap b_S_gap 5 (some .int) :: gG
abbrev b_A_init : ByteArray := prog_2_method_1_code
def y_A_init : MethodName := ⟨R_A, "<init>", "(LPeelRibbons$Slices;)V"⟩
set_option maxRecDepth 20000 in
theorem k_A_init : Cond.code y_A_init b_A_init 2 none ∈ gG := gG_of (List.mem_of_getElem? (i := 99) rfl) rfl
abbrev ws_A_init : List Cond := .code y_A_init b_A_init 2 none :: gG
abbrev b_A_forget : ByteArray := prog_2_method_2_code
def y_A_forget : MethodName := ⟨R_A, "forget", "()V"⟩
set_option maxRecDepth 20000 in
theorem k_A_forget : Cond.code y_A_forget b_A_forget 1 none ∈ gG := gG_of (List.mem_of_getElem? (i := 433) rfl) rfl
abbrev ws_A_forget : List Cond := .code y_A_forget b_A_forget 1 none :: gG
abbrev b_A_number : ByteArray := prog_2_method_3_code
def y_A_number : MethodName := ⟨R_A, "number", "(I)I"⟩
set_option maxRecDepth 20000 in
theorem k_A_number : Cond.code y_A_number b_A_number 2 (some .int) ∈ gG := gG_of (List.mem_of_getElem? (i := 454) rfl) rfl
abbrev ws_A_number : List Cond := .code y_A_number b_A_number 2 (some .int) :: gG
abbrev b_A_greatestRoom : ByteArray := prog_2_method_4_code
def y_A_greatestRoom : MethodName := ⟨R_A, "greatestRoom", "()I"⟩
set_option maxRecDepth 20000 in
theorem k_A_greatestRoom : Cond.code y_A_greatestRoom b_A_greatestRoom 1 (some .int) ∈ gG := gG_of (List.mem_of_getElem? (i := 268) rfl) rfl
abbrev ws_A_greatestRoom : List Cond := .code y_A_greatestRoom b_A_greatestRoom 1 (some .int) :: gG
abbrev b_A_greatestRadius : ByteArray := prog_2_method_5_code
def y_A_greatestRadius : MethodName := ⟨R_A, "greatestRadius", "()I"⟩
set_option maxRecDepth 20000 in
theorem k_A_greatestRadius : Cond.code y_A_greatestRadius b_A_greatestRadius 1 (some .int) ∈ gG := gG_of (List.mem_of_getElem? (i := 336) rfl) rfl
abbrev ws_A_greatestRadius : List Cond := .code y_A_greatestRadius b_A_greatestRadius 1 (some .int) :: gG
abbrev b_A_exactRoom : ByteArray := prog_2_method_6_code
def y_A_exactRoom : MethodName := ⟨R_A, "exactRoom", "(IIII)I"⟩
set_option maxRecDepth 20000 in
theorem k_A_exactRoom : Cond.code y_A_exactRoom b_A_exactRoom 5 (some .int) ∈ gG := gG_of (List.mem_of_getElem? (i := 470) rfl) rfl
abbrev ws_A_exactRoom : List Cond := .code y_A_exactRoom b_A_exactRoom 5 (some .int) :: gG
abbrev b_A_roomAbove : ByteArray := prog_2_method_7_code
def y_A_roomAbove : MethodName := ⟨R_A, "roomAbove", "(IIIII)I"⟩
set_option maxRecDepth 20000 in
theorem k_A_roomAbove : Cond.code y_A_roomAbove b_A_roomAbove 10 (some .int) ∈ gG := gG_of (List.mem_of_getElem? (i := 318) rfl) rfl
abbrev ws_A_roomAbove : List Cond := .code y_A_roomAbove b_A_roomAbove 10 (some .int) :: gG
abbrev b_A_placeAt : ByteArray := prog_2_method_8_code
def y_A_placeAt : MethodName := ⟨R_A, "placeAt", "(III)I"⟩
set_option maxRecDepth 20000 in
theorem k_A_placeAt : Cond.code y_A_placeAt b_A_placeAt 4 (some .int) ∈ gG := gG_of (List.mem_of_getElem? (i := 327) rfl) rfl
abbrev ws_A_placeAt : List Cond := .code y_A_placeAt b_A_placeAt 4 (some .int) :: gG
abbrev b_A_seekIfStale : ByteArray := prog_2_method_9_code
def y_A_seekIfStale : MethodName := ⟨R_A, "seekIfStale", "()V"⟩
set_option maxRecDepth 20000 in
theorem k_A_seekIfStale : Cond.code y_A_seekIfStale b_A_seekIfStale 1 none ∈ gG := gG_of (List.mem_of_getElem? (i := 272) rfl) rfl
abbrev ws_A_seekIfStale : List Cond := .code y_A_seekIfStale b_A_seekIfStale 1 none :: gG
abbrev b_A_seek : ByteArray := prog_2_method_10_code
def y_A_seek : MethodName := ⟨R_A, "seek", "()V"⟩
set_option maxRecDepth 20000 in
theorem k_A_seek : Cond.code y_A_seek b_A_seek 3 none ∈ gG := gG_of (List.mem_of_getElem? (i := 302) rfl) rfl
abbrev ws_A_seek : List Cond := .code y_A_seek b_A_seek 3 none :: gG
abbrev b_A_seekFrom : ByteArray := prog_2_method_11_code
def y_A_seekFrom : MethodName := ⟨R_A, "seekFrom", "(II)V"⟩
set_option maxRecDepth 20000 in
theorem k_A_seekFrom : Cond.code y_A_seekFrom b_A_seekFrom 6 none ∈ gG := gG_of (List.mem_of_getElem? (i := 314) rfl) rfl
abbrev ws_A_seekFrom : List Cond := .code y_A_seekFrom b_A_seekFrom 6 none :: gG
abbrev b_A_keep : ByteArray := prog_2_method_12_code
def y_A_keep : MethodName := ⟨R_A, "keep", "(IIIII)V"⟩
set_option maxRecDepth 20000 in
theorem k_A_keep : Cond.code y_A_keep b_A_keep 6 none ∈ gG := gG_of (List.mem_of_getElem? (i := 306) rfl) rfl
abbrev ws_A_keep : List Cond := .code y_A_keep b_A_keep 6 none :: gG
abbrev b_A_rootOf : ByteArray := prog_2_method_13_code
def y_A_rootOf : MethodName := ⟨R_A, "rootOf", "(I)I"⟩
set_option maxRecDepth 20000 in
theorem k_A_rootOf : Cond.code y_A_rootOf b_A_rootOf 4 (some .int) ∈ gG := gG_of (List.mem_of_getElem? (i := 339) rfl) rfl
abbrev ws_A_rootOf : List Cond := .code y_A_rootOf b_A_rootOf 4 (some .int) :: gG
abbrev b_R_init : ByteArray := prog_7_method_1_code
def y_R_init : MethodName := ⟨R_R, "<init>", "()V"⟩
set_option maxRecDepth 20000 in
theorem k_R_init : Cond.code y_R_init b_R_init 1 none ∈ gG := gG_of (List.mem_of_getElem? (i := 132) rfl) rfl
abbrev ws_R_init : List Cond := .code y_R_init b_R_init 1 none :: gG
abbrev b_R_peelOff : ByteArray := prog_7_method_2_code
def y_R_peelOff : MethodName := ⟨R_R, "peelOff", "(III)V"⟩
set_option maxRecDepth 20000 in
theorem k_R_peelOff : Cond.code y_R_peelOff b_R_peelOff 4 none ∈ gG := gG_of (List.mem_of_getElem? (i := 498) rfl) rfl
abbrev ws_R_peelOff : List Cond := .code y_R_peelOff b_R_peelOff 4 none :: gG
abbrev b_R_forget : ByteArray := prog_7_method_3_code
def y_R_forget : MethodName := ⟨R_R, "forget", "()V"⟩
set_option maxRecDepth 20000 in
theorem k_R_forget : Cond.code y_R_forget b_R_forget 1 none ∈ gG := gG_of (List.mem_of_getElem? (i := 437) rfl) rfl
abbrev ws_R_forget : List Cond := .code y_R_forget b_R_forget 1 none :: gG
abbrev b_R_isPeeled : ByteArray := prog_7_method_4_code
def y_R_isPeeled : MethodName := ⟨R_R, "isPeeled", "()Z"⟩
set_option maxRecDepth 20000 in
theorem k_R_isPeeled : Cond.code y_R_isPeeled b_R_isPeeled 1 (some .boolean) ∈ gG := gG_of (List.mem_of_getElem? (i := 515) rfl) rfl
abbrev ws_R_isPeeled : List Cond := .code y_R_isPeeled b_R_isPeeled 1 (some .boolean) :: gG
abbrev b_R_turns : ByteArray := prog_7_method_5_code
def y_R_turns : MethodName := ⟨R_R, "turns", "()I"⟩
set_option maxRecDepth 20000 in
theorem k_R_turns : Cond.code y_R_turns b_R_turns 1 (some .int) ∈ gG := gG_of (List.mem_of_getElem? (i := 503) rfl) rfl
abbrev ws_R_turns : List Cond := .code y_R_turns b_R_turns 1 (some .int) :: gG
abbrev b_R_length : ByteArray := prog_7_method_6_code
def y_R_length : MethodName := ⟨R_R, "length", "()I"⟩
set_option maxRecDepth 20000 in
theorem k_R_length : Cond.code y_R_length b_R_length 1 (some .int) ∈ gG := gG_of (List.mem_of_getElem? (i := 637) rfl) rfl
abbrev ws_R_length : List Cond := .code y_R_length b_R_length 1 (some .int) :: gG
abbrev b_R_lengthBefore : ByteArray := prog_7_method_7_code
def y_R_lengthBefore : MethodName := ⟨R_R, "lengthBefore", "(I)I"⟩
set_option maxRecDepth 20000 in
theorem k_R_lengthBefore : Cond.code y_R_lengthBefore b_R_lengthBefore 3 (some .int) ∈ gG := gG_of (List.mem_of_getElem? (i := 536) rfl) rfl
abbrev ws_R_lengthBefore : List Cond := .code y_R_lengthBefore b_R_lengthBefore 3 (some .int) :: gG
abbrev b_R_placeOf : ByteArray := prog_7_method_8_code
def y_R_placeOf : MethodName := ⟨R_R, "placeOf", "(II)I"⟩
set_option maxRecDepth 20000 in
theorem k_R_placeOf : Cond.code y_R_placeOf b_R_placeOf 4 (some .int) ∈ gG := gG_of (List.mem_of_getElem? (i := 580) rfl) rfl
abbrev ws_R_placeOf : List Cond := .code y_R_placeOf b_R_placeOf 4 (some .int) :: gG
abbrev b_R_roundOf : ByteArray := prog_7_method_9_code
def y_R_roundOf : MethodName := ⟨R_R, "roundOf", "(I)I"⟩
set_option maxRecDepth 20000 in
theorem k_R_roundOf : Cond.code y_R_roundOf b_R_roundOf 1 (some .int) ∈ gG := gG_of (List.mem_of_getElem? (i := 539) rfl) rfl
abbrev ws_R_roundOf : List Cond := .code y_R_roundOf b_R_roundOf 1 (some .int) :: gG
abbrev b_F_init : ByteArray := prog_4_method_1_code
def y_F_init : MethodName := ⟨R_F, "<init>", "()V"⟩
set_option maxRecDepth 20000 in
theorem k_F_init : Cond.code y_F_init b_F_init 1 none ∈ gG := gG_of (List.mem_of_getElem? (i := 151) rfl) rfl
abbrev ws_F_init : List Cond := .code y_F_init b_F_init 1 none :: gG
abbrev b_F_isFull : ByteArray := prog_4_method_2_code
def y_F_isFull : MethodName := ⟨R_F, "isFull", "()Z"⟩
set_option maxRecDepth 20000 in
theorem k_F_isFull : Cond.code y_F_isFull b_F_isFull 1 (some .boolean) ∈ gG := gG_of (List.mem_of_getElem? (i := 554) rfl) rfl
abbrev ws_F_isFull : List Cond := .code y_F_isFull b_F_isFull 1 (some .boolean) :: gG
abbrev b_F_has : ByteArray := prog_4_method_3_code
def y_F_has : MethodName := ⟨R_F, "has", "(I)Z"⟩
set_option maxRecDepth 20000 in
theorem k_F_has : Cond.code y_F_has b_F_has 2 (some .boolean) ∈ gG := gG_of (List.mem_of_getElem? (i := 570) rfl) rfl
abbrev ws_F_has : List Cond := .code y_F_has b_F_has 2 (some .boolean) :: gG
abbrev b_F_count : ByteArray := prog_4_method_4_code
def y_F_count : MethodName := ⟨R_F, "count", "()I"⟩
set_option maxRecDepth 20000 in
theorem k_F_count : Cond.code y_F_count b_F_count 1 (some .int) ∈ gG := gG_of (List.mem_of_getElem? (i := 646) rfl) rfl
abbrev ws_F_count : List Cond := .code y_F_count b_F_count 1 (some .int) :: gG
abbrev b_F_add : ByteArray := prog_4_method_5_code
def y_F_add : MethodName := ⟨R_F, "add", "(III)I"⟩
set_option maxRecDepth 20000 in
theorem k_F_add : Cond.code y_F_add b_F_add 4 (some .int) ∈ gG := gG_of (List.mem_of_getElem? (i := 559) rfl) rfl
abbrev ws_F_add : List Cond := .code y_F_add b_F_add 4 (some .int) :: gG
abbrev b_F_kindBit : ByteArray := prog_4_method_6_code
def y_F_kindBit : MethodName := ⟨R_F, "kindBit", "(I)I"⟩
set_option maxRecDepth 20000 in
theorem k_F_kindBit : Cond.code y_F_kindBit b_F_kindBit 2 (some .int) ∈ gG := gG_of (List.mem_of_getElem? (i := 651) rfl) rfl
abbrev ws_F_kindBit : List Cond := .code y_F_kindBit b_F_kindBit 2 (some .int) :: gG
abbrev b_F_placeIn : ByteArray := prog_4_method_7_code
def y_F_placeIn : MethodName := ⟨R_F, "placeIn", "(LPeelRibbons$Ribbon;I)I"⟩
set_option maxRecDepth 20000 in
theorem k_F_placeIn : Cond.code y_F_placeIn b_F_placeIn 3 (some .int) ∈ gG := gG_of (List.mem_of_getElem? (i := 576) rfl) rfl
abbrev ws_F_placeIn : List Cond := .code y_F_placeIn b_F_placeIn 3 (some .int) :: gG
abbrev b_L_init : ByteArray := prog_6_method_1_code
def y_L_init : MethodName := ⟨R_L, "<init>", "()V"⟩
set_option maxRecDepth 20000 in
theorem k_L_init : Cond.code y_L_init b_L_init 1 none ∈ gG := gG_of (List.mem_of_getElem? (i := 170) rfl) rfl
abbrev ws_L_init : List Cond := .code y_L_init b_L_init 1 none :: gG
abbrev b_L_isFull : ByteArray := prog_6_method_2_code
def y_L_isFull : MethodName := ⟨R_L, "isFull", "()Z"⟩
set_option maxRecDepth 20000 in
theorem k_L_isFull : Cond.code y_L_isFull b_L_isFull 1 (some .boolean) ∈ gG := gG_of (List.mem_of_getElem? (i := 594) rfl) rfl
abbrev ws_L_isFull : List Cond := .code y_L_isFull b_L_isFull 1 (some .boolean) :: gG
abbrev b_L_has : ByteArray := prog_6_method_3_code
def y_L_has : MethodName := ⟨R_L, "has", "(I)Z"⟩
set_option maxRecDepth 20000 in
theorem k_L_has : Cond.code y_L_has b_L_has 2 (some .boolean) ∈ gG := gG_of (List.mem_of_getElem? (i := 610) rfl) rfl
abbrev ws_L_has : List Cond := .code y_L_has b_L_has 2 (some .boolean) :: gG
abbrev b_L_count : ByteArray := prog_6_method_4_code
def y_L_count : MethodName := ⟨R_L, "count", "()I"⟩
set_option maxRecDepth 20000 in
theorem k_L_count : Cond.code y_L_count b_L_count 1 (some .int) ∈ gG := gG_of (List.mem_of_getElem? (i := 659) rfl) rfl
abbrev ws_L_count : List Cond := .code y_L_count b_L_count 1 (some .int) :: gG
abbrev b_L_add : ByteArray := prog_6_method_5_code
def y_L_add : MethodName := ⟨R_L, "add", "(II)I"⟩
set_option maxRecDepth 20000 in
theorem k_L_add : Cond.code y_L_add b_L_add 3 (some .int) ∈ gG := gG_of (List.mem_of_getElem? (i := 599) rfl) rfl
abbrev ws_L_add : List Cond := .code y_L_add b_L_add 3 (some .int) :: gG
abbrev b_L_tellBar : ByteArray := prog_6_method_6_code
def y_L_tellBar : MethodName := ⟨R_L, "tellBar", "(IIZ)Z"⟩
set_option maxRecDepth 20000 in
theorem k_L_tellBar : Cond.code y_L_tellBar b_L_tellBar 5 (some .boolean) ∈ gG := gG_of (List.mem_of_getElem? (i := 616) rfl) rfl
abbrev ws_L_tellBar : List Cond := .code y_L_tellBar b_L_tellBar 5 (some .boolean) :: gG
abbrev b_L_barsAny : ByteArray := prog_6_method_7_code
def y_L_barsAny : MethodName := ⟨R_L, "barsAny", "(II)Z"⟩
set_option maxRecDepth 20000 in
theorem k_L_barsAny : Cond.code y_L_barsAny b_L_barsAny 3 (some .boolean) ∈ gG := gG_of (List.mem_of_getElem? (i := 620) rfl) rfl
abbrev ws_L_barsAny : List Cond := .code y_L_barsAny b_L_barsAny 3 (some .boolean) :: gG
abbrev b_L_width : ByteArray := prog_6_method_8_code
def y_L_width : MethodName := ⟨R_L, "width", "(I)I"⟩
set_option maxRecDepth 20000 in
theorem k_L_width : Cond.code y_L_width b_L_width 2 (some .int) ∈ gG := gG_of (List.mem_of_getElem? (i := 668) rfl) rfl
abbrev ws_L_width : List Cond := .code y_L_width b_L_width 2 (some .int) :: gG
abbrev b_L_worth : ByteArray := prog_6_method_9_code
def y_L_worth : MethodName := ⟨R_L, "worth", "(I)I"⟩
set_option maxRecDepth 20000 in
theorem k_L_worth : Cond.code y_L_worth b_L_worth 2 (some .int) ∈ gG := gG_of (List.mem_of_getElem? (i := 672) rfl) rfl
abbrev ws_L_worth : List Cond := .code y_L_worth b_L_worth 2 (some .int) :: gG
abbrev b_C_init : ByteArray := prog_3_method_1_code
def y_C_init : MethodName := ⟨R_C, "<init>", "()V"⟩
set_option maxRecDepth 20000 in
theorem k_C_init : Cond.code y_C_init b_C_init 1 none ∈ gG := gG_of (List.mem_of_getElem? (i := 189) rfl) rfl
abbrev ws_C_init : List Cond := .code y_C_init b_C_init 1 none :: gG
abbrev b_C_forget : ByteArray := prog_3_method_2_code
def y_C_forget : MethodName := ⟨R_C, "forget", "()V"⟩
set_option maxRecDepth 20000 in
theorem k_C_forget : Cond.code y_C_forget b_C_forget 1 none ∈ gG := gG_of (List.mem_of_getElem? (i := 441) rfl) rfl
abbrev ws_C_forget : List Cond := .code y_C_forget b_C_forget 1 none :: gG
abbrev b_C_isDone : ByteArray := prog_3_method_3_code
def y_C_isDone : MethodName := ⟨R_C, "isDone", "()Z"⟩
set_option maxRecDepth 20000 in
theorem k_C_isDone : Cond.code y_C_isDone b_C_isDone 1 (some .boolean) ∈ gG := gG_of (List.mem_of_getElem? (i := 696) rfl) rfl
abbrev ws_C_isDone : List Cond := .code y_C_isDone b_C_isDone 1 (some .boolean) :: gG
abbrev b_C_count : ByteArray := prog_3_method_4_code
def y_C_count : MethodName := ⟨R_C, "count", "()I"⟩
set_option maxRecDepth 20000 in
theorem k_C_count : Cond.code y_C_count b_C_count 1 (some .int) ∈ gG := gG_of (List.mem_of_getElem? (i := 685) rfl) rfl
abbrev ws_C_count : List Cond := .code y_C_count b_C_count 1 (some .int) :: gG
abbrev b_C_worth : ByteArray := prog_3_method_5_code
def y_C_worth : MethodName := ⟨R_C, "worth", "()I"⟩
set_option maxRecDepth 20000 in
theorem k_C_worth : Cond.code y_C_worth b_C_worth 1 (some .int) ∈ gG := gG_of (List.mem_of_getElem? (i := 718) rfl) rfl
abbrev ws_C_worth : List Cond := .code y_C_worth b_C_worth 1 (some .int) :: gG
abbrev b_C_waste : ByteArray := prog_3_method_6_code
def y_C_waste : MethodName := ⟨R_C, "waste", "()I"⟩
set_option maxRecDepth 20000 in
theorem k_C_waste : Cond.code y_C_waste b_C_waste 1 (some .int) ∈ gG := gG_of (List.mem_of_getElem? (i := 722) rfl) rfl
abbrev ws_C_waste : List Cond := .code y_C_waste b_C_waste 1 (some .int) :: gG
abbrev b_C_steps : ByteArray := prog_3_method_7_code
def y_C_steps : MethodName := ⟨R_C, "steps", "()I"⟩
set_option maxRecDepth 20000 in
theorem k_C_steps : Cond.code y_C_steps b_C_steps 1 (some .int) ∈ gG := gG_of (List.mem_of_getElem? (i := 726) rfl) rfl
abbrev ws_C_steps : List Cond := .code y_C_steps b_C_steps 1 (some .int) :: gG
abbrev b_C_leafOf : ByteArray := prog_3_method_8_code
def y_C_leafOf : MethodName := ⟨R_C, "leafOf", "(I)I"⟩
set_option maxRecDepth 20000 in
theorem k_C_leafOf : Cond.code y_C_leafOf b_C_leafOf 2 (some .int) ∈ gG := gG_of (List.mem_of_getElem? (i := 702) rfl) rfl
abbrev ws_C_leafOf : List Cond := .code y_C_leafOf b_C_leafOf 2 (some .int) :: gG
abbrev b_C_firstStepOf : ByteArray := prog_3_method_9_code
def y_C_firstStepOf : MethodName := ⟨R_C, "firstStepOf", "(I)I"⟩
set_option maxRecDepth 20000 in
theorem k_C_firstStepOf : Cond.code y_C_firstStepOf b_C_firstStepOf 2 (some .int) ∈ gG := gG_of (List.mem_of_getElem? (i := 706) rfl) rfl
abbrev ws_C_firstStepOf : List Cond := .code y_C_firstStepOf b_C_firstStepOf 2 (some .int) :: gG
abbrev b_C_cut : ByteArray := prog_3_method_10_code
def y_C_cut : MethodName := ⟨R_C, "cut", "(LPeelRibbons$Ribbon;LPeelRibbons$Faults;LPeelRibbons$Leaves;I)V"⟩
set_option maxRecDepth 20000 in
theorem k_C_cut : Cond.code y_C_cut b_C_cut 6 none ∈ gG := gG_of (List.mem_of_getElem? (i := 632) rfl) rfl
abbrev ws_C_cut : List Cond := .code y_C_cut b_C_cut 6 none :: gG
abbrev b_C_markFaults : ByteArray := prog_3_method_11_code
def y_C_markFaults : MethodName := ⟨R_C, "markFaults", "(LPeelRibbons$Ribbon;LPeelRibbons$Faults;I)V"⟩
set_option maxRecDepth 20000 in
theorem k_C_markFaults : Cond.code y_C_markFaults b_C_markFaults 6 none ∈ gG := gG_of (List.mem_of_getElem? (i := 642) rfl) rfl
abbrev ws_C_markFaults : List Cond := .code y_C_markFaults b_C_markFaults 6 none :: gG
abbrev b_C_chooseFromTheEnd : ByteArray := prog_3_method_12_code
def y_C_chooseFromTheEnd : MethodName := ⟨R_C, "chooseFromTheEnd", "(LPeelRibbons$Leaves;)V"⟩
set_option maxRecDepth 20000 in
theorem k_C_chooseFromTheEnd : Cond.code y_C_chooseFromTheEnd b_C_chooseFromTheEnd 3 none ∈ gG := gG_of (List.mem_of_getElem? (i := 655) rfl) rfl
abbrev ws_C_chooseFromTheEnd : List Cond := .code y_C_chooseFromTheEnd b_C_chooseFromTheEnd 3 none :: gG
abbrev b_C_chooseAt : ByteArray := prog_3_method_13_code
def y_C_chooseAt : MethodName := ⟨R_C, "chooseAt", "(ILPeelRibbons$Leaves;)V"⟩
set_option maxRecDepth 20000 in
theorem k_C_chooseAt : Cond.code y_C_chooseAt b_C_chooseAt 5 none ∈ gG := gG_of (List.mem_of_getElem? (i := 663) rfl) rfl
abbrev ws_C_chooseAt : List Cond := .code y_C_chooseAt b_C_chooseAt 5 none :: gG
abbrev b_C_tryLeaf : ByteArray := prog_3_method_14_code
def y_C_tryLeaf : MethodName := ⟨R_C, "tryLeaf", "(IIJ)V"⟩
set_option maxRecDepth 20000 in
theorem k_C_tryLeaf : Cond.code y_C_tryLeaf b_C_tryLeaf 5 none ∈ gG := gG_of (List.mem_of_getElem? (i := 677) rfl) rfl
abbrev ws_C_tryLeaf : List Cond := .code y_C_tryLeaf b_C_tryLeaf 5 none :: gG
abbrev b_C_listFromTheBegin : ByteArray := prog_3_method_15_code
def y_C_listFromTheBegin : MethodName := ⟨R_C, "listFromTheBegin", "(LPeelRibbons$Leaves;)V"⟩
set_option maxRecDepth 20000 in
theorem k_C_listFromTheBegin : Cond.code y_C_listFromTheBegin b_C_listFromTheBegin 5 none ∈ gG := gG_of (List.mem_of_getElem? (i := 681) rfl) rfl
abbrev ws_C_listFromTheBegin : List Cond := .code y_C_listFromTheBegin b_C_listFromTheBegin 5 none :: gG
abbrev b_K_init : ByteArray := prog_5_method_1_code
def y_K_init : MethodName := ⟨R_K, "<init>", "()V"⟩
set_option maxRecDepth 20000 in
theorem k_K_init : Cond.code y_K_init b_K_init 1 none ∈ gG := gG_of (List.mem_of_getElem? (i := 227) rfl) rfl
abbrev ws_K_init : List Cond := .code y_K_init b_K_init 1 none :: gG
abbrev b_K_isBelowLast : ByteArray := prog_5_method_2_code
def y_K_isBelowLast : MethodName := ⟨R_K, "isBelowLast", "(I)Z"⟩
set_option maxRecDepth 20000 in
theorem k_K_isBelowLast : Cond.code y_K_isBelowLast b_K_isBelowLast 2 (some .boolean) ∈ gG := gG_of (List.mem_of_getElem? (i := 747) rfl) rfl
abbrev ws_K_isBelowLast : List Cond := .code y_K_isBelowLast b_K_isBelowLast 2 (some .boolean) :: gG
abbrev b_K_add : ByteArray := prog_5_method_3_code
def y_K_add : MethodName := ⟨R_K, "add", "(II)Z"⟩
set_option maxRecDepth 20000 in
theorem k_K_add : Cond.code y_K_add b_K_add 3 (some .boolean) ∈ gG := gG_of (List.mem_of_getElem? (i := 752) rfl) rfl
abbrev ws_K_add : List Cond := .code y_K_add b_K_add 3 (some .boolean) :: gG
abbrev b_K_answerAt : ByteArray := prog_5_method_4_code
def y_K_answerAt : MethodName := ⟨R_K, "answerAt", "(I)I"⟩
set_option maxRecDepth 20000 in
theorem k_K_answerAt : Cond.code y_K_answerAt b_K_answerAt 3 (some .int) ∈ gG := gG_of (List.mem_of_getElem? (i := 764) rfl) rfl
abbrev ws_K_answerAt : List Cond := .code y_K_answerAt b_K_answerAt 3 (some .int) :: gG
abbrev b_M_init : ByteArray := prog_10_method_1_code
def y_M_init : MethodName := ⟨R_M, "<init>", "(II)V"⟩
set_option maxRecDepth 20000 in
theorem k_M_init : Cond.code y_M_init b_M_init 3 none ∈ gG := gG_of (List.mem_of_getElem? (i := 769) rfl) rfl
abbrev ws_M_init : List Cond := .code y_M_init b_M_init 3 none :: gG
abbrev b_M_thrown : ByteArray := prog_10_method_2_code
def y_M_thrown : MethodName := ⟨R_M, "thrown", "()I"⟩
set_option maxRecDepth 20000 in
theorem k_M_thrown : Cond.code y_M_thrown b_M_thrown 1 (some .int) ∈ gG := gG_of (List.mem_of_getElem? (i := 871) rfl) rfl
abbrev ws_M_thrown : List Cond := .code y_M_thrown b_M_thrown 1 (some .int) :: gG
abbrev b_M_isIn : ByteArray := prog_10_method_3_code
def y_M_isIn : MethodName := ⟨R_M, "isIn", "(III)Z"⟩
set_option maxRecDepth 20000 in
theorem k_M_isIn : Cond.code y_M_isIn b_M_isIn 3 (some .boolean) ∈ gG := gG_of (List.mem_of_getElem? (i := 878) rfl) rfl
abbrev ws_M_isIn : List Cond := .code y_M_isIn b_M_isIn 3 (some .boolean) :: gG
abbrev b_M_cell : ByteArray := prog_10_method_4_code
def y_M_cell : MethodName := ⟨R_M, "cell", "(IIIZ)Z"⟩
set_option maxRecDepth 20000 in
theorem k_M_cell : Cond.code y_M_cell b_M_cell 7 (some .boolean) ∈ gG := gG_of (List.mem_of_getElem? (i := 875) rfl) rfl
abbrev ws_M_cell : List Cond := .code y_M_cell b_M_cell 7 (some .boolean) :: gG
abbrev b_M_less : ByteArray := prog_10_method_5_code
def y_M_less : MethodName := ⟨R_M, "less", "(II)I"⟩
set_option maxRecDepth 20000 in
theorem k_M_less : Cond.code y_M_less b_M_less 2 (some .int) ∈ gG := gG_of (List.mem_of_getElem? (i := 893) rfl) rfl
abbrev ws_M_less : List Cond := .code y_M_less b_M_less 2 (some .int) :: gG
abbrev b_M_off : ByteArray := prog_10_method_6_code
def y_M_off : MethodName := ⟨R_M, "off", "(III)I"⟩
set_option maxRecDepth 20000 in
theorem k_M_off : Cond.code y_M_off b_M_off 3 (some .int) ∈ gG := gG_of (List.mem_of_getElem? (i := 896) rfl) rfl
abbrev ws_M_off : List Cond := .code y_M_off b_M_off 3 (some .int) :: gG
abbrev b_M_square : ByteArray := prog_10_method_7_code
def y_M_square : MethodName := ⟨R_M, "square", "(III)I"⟩
set_option maxRecDepth 20000 in
theorem k_M_square : Cond.code y_M_square b_M_square 11 (some .int) ∈ gG := gG_of (List.mem_of_getElem? (i := 890) rfl) rfl
abbrev ws_M_square : List Cond := .code y_M_square b_M_square 11 (some .int) :: gG
abbrev b_M_roomAt : ByteArray := prog_10_method_8_code
def y_M_roomAt : MethodName := ⟨R_M, "roomAt", "(IIII)I"⟩
set_option maxRecDepth 20000 in
theorem k_M_roomAt : Cond.code y_M_roomAt b_M_roomAt 9 (some .int) ∈ gG := gG_of (List.mem_of_getElem? (i := 900) rfl) rfl
abbrev ws_M_roomAt : List Cond := .code y_M_roomAt b_M_roomAt 9 (some .int) :: gG
abbrev b_M_know : ByteArray := prog_10_method_9_code
def y_M_know : MethodName := ⟨R_M, "know", "()V"⟩
set_option maxRecDepth 20000 in
theorem k_M_know : Cond.code y_M_know b_M_know 8 none ∈ gG := gG_of (List.mem_of_getElem? (i := 886) rfl) rfl
abbrev ws_M_know : List Cond := .code y_M_know b_M_know 8 none :: gG
abbrev b_M_room : ByteArray := prog_10_method_10_code
def y_M_room : MethodName := ⟨R_M, "room", "()I"⟩
set_option maxRecDepth 20000 in
theorem k_M_room : Cond.code y_M_room b_M_room 1 (some .int) ∈ gG := gG_of (List.mem_of_getElem? (i := 882) rfl) rfl
abbrev ws_M_room : List Cond := .code y_M_room b_M_room 1 (some .int) :: gG
abbrev b_M_axis : ByteArray := prog_10_method_11_code
def y_M_axis : MethodName := ⟨R_M, "axis", "(I)I"⟩
set_option maxRecDepth 20000 in
theorem k_M_axis : Cond.code y_M_axis b_M_axis 2 (some .int) ∈ gG := gG_of (List.mem_of_getElem? (i := 905) rfl) rfl
abbrev ws_M_axis : List Cond := .code y_M_axis b_M_axis 2 (some .int) :: gG
abbrev b_M_radius : ByteArray := prog_10_method_12_code
def y_M_radius : MethodName := ⟨R_M, "radius", "()I"⟩
set_option maxRecDepth 20000 in
theorem k_M_radius : Cond.code y_M_radius b_M_radius 2 (some .int) ∈ gG := gG_of (List.mem_of_getElem? (i := 909) rfl) rfl
abbrev ws_M_radius : List Cond := .code y_M_radius b_M_radius 2 (some .int) :: gG
abbrev b_M_roomOf : ByteArray := prog_10_method_13_code
def y_M_roomOf : MethodName := ⟨R_M, "roomOf", "(IIII)I"⟩
set_option maxRecDepth 20000 in
theorem k_M_roomOf : Cond.code y_M_roomOf b_M_roomOf 5 (some .int) ∈ gG := gG_of (List.mem_of_getElem? (i := 913) rfl) rfl
abbrev ws_M_roomOf : List Cond := .code y_M_roomOf b_M_roomOf 5 (some .int) :: gG
abbrev b_M_peel : ByteArray := prog_10_method_14_code
def y_M_peel : MethodName := ⟨R_M, "peel", "(II)I"⟩
set_option maxRecDepth 20000 in
theorem k_M_peel : Cond.code y_M_peel b_M_peel 3 (some .int) ∈ gG := gG_of (List.mem_of_getElem? (i := 917) rfl) rfl
abbrev ws_M_peel : List Cond := .code y_M_peel b_M_peel 3 (some .int) :: gG
abbrev b_M_beforeTurn : ByteArray := prog_10_method_15_code
def y_M_beforeTurn : MethodName := ⟨R_M, "beforeTurn", "(I)I"⟩
set_option maxRecDepth 20000 in
theorem k_M_beforeTurn : Cond.code y_M_beforeTurn b_M_beforeTurn 4 (some .int) ∈ gG := gG_of (List.mem_of_getElem? (i := 926) rfl) rfl
abbrev ws_M_beforeTurn : List Cond := .code y_M_beforeTurn b_M_beforeTurn 4 (some .int) :: gG
abbrev b_M_before : ByteArray := prog_10_method_16_code
def y_M_before : MethodName := ⟨R_M, "before", "(I)I"⟩
set_option maxRecDepth 20000 in
theorem k_M_before : Cond.code y_M_before b_M_before 2 (some .int) ∈ gG := gG_of (List.mem_of_getElem? (i := 922) rfl) rfl
abbrev ws_M_before : List Cond := .code y_M_before b_M_before 2 (some .int) :: gG
abbrev b_M_fault : ByteArray := prog_10_method_17_code
def y_M_fault : MethodName := ⟨R_M, "fault", "(III)I"⟩
set_option maxRecDepth 20000 in
theorem k_M_fault : Cond.code y_M_fault b_M_fault 4 (some .int) ∈ gG := gG_of (List.mem_of_getElem? (i := 930) rfl) rfl
abbrev ws_M_fault : List Cond := .code y_M_fault b_M_fault 4 (some .int) :: gG
abbrev b_M_placeOf : ByteArray := prog_10_method_18_code
def y_M_placeOf : MethodName := ⟨R_M, "placeOf", "(I)I"⟩
set_option maxRecDepth 20000 in
theorem k_M_placeOf : Cond.code y_M_placeOf b_M_placeOf 3 (some .int) ∈ gG := gG_of (List.mem_of_getElem? (i := 938) rfl) rfl
abbrev ws_M_placeOf : List Cond := .code y_M_placeOf b_M_placeOf 3 (some .int) :: gG
abbrev b_M_unrolled : ByteArray := prog_10_method_19_code
def y_M_unrolled : MethodName := ⟨R_M, "unrolled", "(I)I"⟩
set_option maxRecDepth 20000 in
theorem k_M_unrolled : Cond.code y_M_unrolled b_M_unrolled 2 (some .int) ∈ gG := gG_of (List.mem_of_getElem? (i := 934) rfl) rfl
abbrev ws_M_unrolled : List Cond := .code y_M_unrolled b_M_unrolled 2 (some .int) :: gG
abbrev b_M_leaf : ByteArray := prog_10_method_20_code
def y_M_leaf : MethodName := ⟨R_M, "leaf", "(II)I"⟩
set_option maxRecDepth 20000 in
theorem k_M_leaf : Cond.code y_M_leaf b_M_leaf 3 (some .int) ∈ gG := gG_of (List.mem_of_getElem? (i := 942) rfl) rfl
abbrev ws_M_leaf : List Cond := .code y_M_leaf b_M_leaf 3 (some .int) :: gG
abbrev b_M_bars : ByteArray := prog_10_method_21_code
def y_M_bars : MethodName := ⟨R_M, "bars", "(IIZ)Z"⟩
set_option maxRecDepth 20000 in
theorem k_M_bars : Cond.code y_M_bars b_M_bars 5 (some .boolean) ∈ gG := gG_of (List.mem_of_getElem? (i := 946) rfl) rfl
abbrev ws_M_bars : List Cond := .code y_M_bars b_M_bars 5 (some .boolean) :: gG
abbrev b_M_fits : ByteArray := prog_10_method_22_code
def y_M_fits : MethodName := ⟨R_M, "fits", "(II)Z"⟩
set_option maxRecDepth 20000 in
theorem k_M_fits : Cond.code y_M_fits b_M_fits 5 (some .boolean) ∈ gG := gG_of (List.mem_of_getElem? (i := 954) rfl) rfl
abbrev ws_M_fits : List Cond := .code y_M_fits b_M_fits 5 (some .boolean) :: gG
abbrev b_M_side : ByteArray := prog_10_method_23_code
def y_M_side : MethodName := ⟨R_M, "side", "(II)I"⟩
set_option maxRecDepth 20000 in
theorem k_M_side : Cond.code y_M_side b_M_side 6 (some .int) ∈ gG := gG_of (List.mem_of_getElem? (i := 958) rfl) rfl
abbrev ws_M_side : List Cond := .code y_M_side b_M_side 6 (some .int) :: gG
abbrev b_M_clip : ByteArray := prog_10_method_24_code
def y_M_clip : MethodName := ⟨R_M, "clip", "(I)I"⟩
set_option maxRecDepth 20000 in
theorem k_M_clip : Cond.code y_M_clip b_M_clip 4 (some .int) ∈ gG := gG_of (List.mem_of_getElem? (i := 950) rfl) rfl
abbrev ws_M_clip : List Cond := .code y_M_clip b_M_clip 4 (some .int) :: gG
abbrev b_M_at : ByteArray := prog_10_method_25_code
def y_M_at : MethodName := ⟨R_M, "at", "(II)I"⟩
set_option maxRecDepth 20000 in
theorem k_M_at : Cond.code y_M_at b_M_at 3 (some .int) ∈ gG := gG_of (List.mem_of_getElem? (i := 962) rfl) rfl
abbrev ws_M_at : List Cond := .code y_M_at b_M_at 3 (some .int) :: gG
abbrev b_M_clipped : ByteArray := prog_10_method_26_code
def y_M_clipped : MethodName := ⟨R_M, "clipped", "(I)I"⟩
set_option maxRecDepth 20000 in
theorem k_M_clipped : Cond.code y_M_clipped b_M_clipped 2 (some .int) ∈ gG := gG_of (List.mem_of_getElem? (i := 966) rfl) rfl
abbrev ws_M_clipped : List Cond := .code y_M_clipped b_M_clipped 2 (some .int) :: gG
abbrev b_M_shrink : ByteArray := prog_10_method_27_code
def y_M_shrink : MethodName := ⟨R_M, "shrink", "(III)I"⟩
set_option maxRecDepth 20000 in
theorem k_M_shrink : Cond.code y_M_shrink b_M_shrink 4 (some .int) ∈ gG := gG_of (List.mem_of_getElem? (i := 970) rfl) rfl
abbrev ws_M_shrink : List Cond := .code y_M_shrink b_M_shrink 4 (some .int) :: gG
abbrev b_M_row : ByteArray := prog_10_method_28_code
def y_M_row : MethodName := ⟨R_M, "row", "(II)Z"⟩
set_option maxRecDepth 20000 in
theorem k_M_row : Cond.code y_M_row b_M_row 3 (some .boolean) ∈ gG := gG_of (List.mem_of_getElem? (i := 974) rfl) rfl
abbrev ws_M_row : List Cond := .code y_M_row b_M_row 3 (some .boolean) :: gG
abbrev b_M_knife : ByteArray := prog_10_method_29_code
def y_M_knife : MethodName := ⟨R_M, "knife", "(I)I"⟩
set_option maxRecDepth 20000 in
theorem k_M_knife : Cond.code y_M_knife b_M_knife 4 (some .int) ∈ gG := gG_of (List.mem_of_getElem? (i := 978) rfl) rfl
abbrev ws_M_knife : List Cond := .code y_M_knife b_M_knife 4 (some .int) :: gG
abbrev b_W_at0 : ByteArray := method_2_code
def y_W_at0 : MethodName := ⟨R_W, "cell", "([II)I"⟩
set_option maxRecDepth 20000 in
theorem k_W_at0 : Cond.code y_W_at0 b_W_at0 2 (some .int) ∈ gG := gG_of (List.mem_of_getElem? (i := 342) rfl) rfl
abbrev ws_W_at0 : List Cond := .code y_W_at0 b_W_at0 2 (some .int) :: gG
abbrev b_W_cell : ByteArray := method_3_code
def y_W_cell : MethodName := ⟨R_W, "cell", "(LPeelRibbons;IIIZ[J)I"⟩
abbrev b_W_axis : ByteArray := method_4_code
def y_W_axis : MethodName := ⟨R_W, "axis", "(LPeelRibbons;I[J)I"⟩
abbrev b_W_roomOf : ByteArray := method_5_code
def y_W_roomOf : MethodName := ⟨R_W, "roomOf", "(LPeelRibbons;IIII[J)I"⟩
abbrev b_W_peel : ByteArray := method_6_code
def y_W_peel : MethodName := ⟨R_W, "peel", "(LPeelRibbons;II[J)I"⟩
abbrev b_W_before : ByteArray := method_7_code
def y_W_before : MethodName := ⟨R_W, "before", "(LPeelRibbons;I[J)I"⟩
abbrev b_W_fault : ByteArray := method_8_code
def y_W_fault : MethodName := ⟨R_W, "fault", "(LPeelRibbons;III[J)I"⟩
abbrev b_W_unrolled : ByteArray := method_9_code
def y_W_unrolled : MethodName := ⟨R_W, "unrolled", "(LPeelRibbons;I[J)I"⟩
abbrev b_W_leaf : ByteArray := method_10_code
def y_W_leaf : MethodName := ⟨R_W, "leaf", "(LPeelRibbons;II[J)I"⟩
abbrev b_W_bars : ByteArray := method_11_code
def y_W_bars : MethodName := ⟨R_W, "bars", "(LPeelRibbons;IIZ[J)I"⟩
abbrev b_W_clip : ByteArray := method_12_code
def y_W_clip : MethodName := ⟨R_W, "clip", "(LPeelRibbons;I[J)I"⟩
abbrev b_W_at : ByteArray := method_13_code
def y_W_at : MethodName := ⟨R_W, "at", "(LPeelRibbons;II[J)I"⟩
abbrev b_W_clipped : ByteArray := method_14_code
def y_W_clipped : MethodName := ⟨R_W, "clipped", "(LPeelRibbons;I[J)I"⟩
abbrev b_W_shrink : ByteArray := method_15_code
def y_W_shrink : MethodName := ⟨R_W, "shrink", "(LPeelRibbons;III[J)I"⟩
abbrev b_W_row : ByteArray := method_16_code
def y_W_row : MethodName := ⟨R_W, "row", "(LPeelRibbons;II[J)I"⟩
abbrev b_W_knife : ByteArray := method_17_code
def y_W_knife : MethodName := ⟨R_W, "knife", "(LPeelRibbons;I[J)I"⟩
-- no code row: ('PeelRibbonsLaw', 'law', '([I)Z')
