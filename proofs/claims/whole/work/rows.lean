section
-- ===== PART A: goes FIRST, ahead of the names: the tables' words, and 'selects' of the private methods out of them =====
/-- a private method of a class that the tables say can be made, by its rows of tables_1 -/
def lw_okq (q : MethodName × Nat) : Prop := (q.1.cls ≠ "java/lang/invoke/MethodHandle" ∧ q.1.cls ≠ "java/lang/invoke/VarHandle") ∧ Cond.instantiable q.1.cls q.2 ∈ tables_1 ∧ Cond.privateMethod q.1 ∈ tables_1 ∧ Cond.instanceMethod q.1 ∈ tables_1
theorem lw_p0 : lw_okq (⟨"PeelRibbons$Axes", "seekIfStale", "()V"⟩, 4) := ⟨⟨by decide +kernel, by decide +kernel⟩, List.mem_of_getElem? (i := 69) (by decide +kernel), List.mem_of_getElem? (i := 229) (by decide +kernel), List.mem_of_getElem? (i := 230) (by decide +kernel)⟩
theorem lw_p1 : lw_okq (⟨"PeelRibbons$Axes", "seek", "()V"⟩, 4) := ⟨⟨by decide +kernel, by decide +kernel⟩, List.mem_of_getElem? (i := 69) (by decide +kernel), List.mem_of_getElem? (i := 233) (by decide +kernel), List.mem_of_getElem? (i := 234) (by decide +kernel)⟩
theorem lw_p2 : lw_okq (⟨"PeelRibbons$Axes", "keep", "(IIIII)V"⟩, 4) := ⟨⟨by decide +kernel, by decide +kernel⟩, List.mem_of_getElem? (i := 69) (by decide +kernel), List.mem_of_getElem? (i := 237) (by decide +kernel), List.mem_of_getElem? (i := 238) (by decide +kernel)⟩
theorem lw_p3 : lw_okq (⟨"PeelRibbons$Slices", "measure", "(I)V"⟩, 8) := ⟨⟨by decide +kernel, by decide +kernel⟩, List.mem_of_getElem? (i := 26) (by decide +kernel), List.mem_of_getElem? (i := 253) (by decide +kernel), List.mem_of_getElem? (i := 254) (by decide +kernel)⟩
theorem lw_p4 : lw_okq (⟨"PeelRibbons$Slices", "nearestInColumnOf", "(III)I"⟩, 8) := ⟨⟨by decide +kernel, by decide +kernel⟩, List.mem_of_getElem? (i := 26) (by decide +kernel), List.mem_of_getElem? (i := 257) (by decide +kernel), List.mem_of_getElem? (i := 258) (by decide +kernel)⟩
theorem lw_p5 : lw_okq (⟨"PeelRibbons$Slices", "isIn", "(III)Z"⟩, 8) := ⟨⟨by decide +kernel, by decide +kernel⟩, List.mem_of_getElem? (i := 26) (by decide +kernel), List.mem_of_getElem? (i := 262) (by decide +kernel), List.mem_of_getElem? (i := 263) (by decide +kernel)⟩
theorem lw_p6 : lw_okq (⟨"PeelRibbons$Slices", "indexOf", "(III)I"⟩, 8) := ⟨⟨by decide +kernel, by decide +kernel⟩, List.mem_of_getElem? (i := 26) (by decide +kernel), List.mem_of_getElem? (i := 273) (by decide +kernel), List.mem_of_getElem? (i := 274) (by decide +kernel)⟩
theorem lw_p7 : lw_okq (⟨"PeelRibbons$Slices", "gap", "(II)I"⟩, 8) := ⟨⟨by decide +kernel, by decide +kernel⟩, List.mem_of_getElem? (i := 26) (by decide +kernel), List.mem_of_getElem? (i := 277) (by decide +kernel), List.mem_of_getElem? (i := 278) (by decide +kernel)⟩
theorem lw_p8 : lw_okq (⟨"PeelRibbons$Slices", "nearestOverColumns", "(I)I"⟩, 8) := ⟨⟨by decide +kernel, by decide +kernel⟩, List.mem_of_getElem? (i := 26) (by decide +kernel), List.mem_of_getElem? (i := 282) (by decide +kernel), List.mem_of_getElem? (i := 283) (by decide +kernel)⟩
theorem lw_p9 : lw_okq (⟨"PeelRibbons$Axes", "seekFrom", "(II)V"⟩, 4) := ⟨⟨by decide +kernel, by decide +kernel⟩, List.mem_of_getElem? (i := 69) (by decide +kernel), List.mem_of_getElem? (i := 286) (by decide +kernel), List.mem_of_getElem? (i := 287) (by decide +kernel)⟩
theorem lw_p10 : lw_okq (⟨"PeelRibbons$Axes", "roomAbove", "(IIIII)I"⟩, 4) := ⟨⟨by decide +kernel, by decide +kernel⟩, List.mem_of_getElem? (i := 69) (by decide +kernel), List.mem_of_getElem? (i := 290) (by decide +kernel), List.mem_of_getElem? (i := 291) (by decide +kernel)⟩
theorem lw_p11 : lw_okq (⟨"PeelRibbons$Axes", "placeAt", "(III)I"⟩, 4) := ⟨⟨by decide +kernel, by decide +kernel⟩, List.mem_of_getElem? (i := 69) (by decide +kernel), List.mem_of_getElem? (i := 299) (by decide +kernel), List.mem_of_getElem? (i := 300) (by decide +kernel)⟩
theorem lw_p12 : lw_okq (⟨"java/lang/Throwable", "fillInStackTrace", "(I)Ljava/lang/Throwable;"⟩, 6) := ⟨⟨by decide +kernel, by decide +kernel⟩, List.mem_of_getElem? (i := 365) (by decide +kernel), List.mem_of_getElem? (i := 363) (by decide +kernel), List.mem_of_getElem? (i := 364) (by decide +kernel)⟩
theorem lw_p13 : lw_okq (⟨"PeelRibbons$Clipping", "markFaults", "(LPeelRibbons$Ribbon;LPeelRibbons$Faults;I)V"⟩, 10) := ⟨⟨by decide +kernel, by decide +kernel⟩, List.mem_of_getElem? (i := 145) (by decide +kernel), List.mem_of_getElem? (i := 608) (by decide +kernel), List.mem_of_getElem? (i := 609) (by decide +kernel)⟩
theorem lw_p14 : lw_okq (⟨"PeelRibbons$Clipping", "chooseFromTheEnd", "(LPeelRibbons$Leaves;)V"⟩, 10) := ⟨⟨by decide +kernel, by decide +kernel⟩, List.mem_of_getElem? (i := 145) (by decide +kernel), List.mem_of_getElem? (i := 621) (by decide +kernel), List.mem_of_getElem? (i := 622) (by decide +kernel)⟩
theorem lw_p15 : lw_okq (⟨"PeelRibbons$Clipping", "chooseAt", "(ILPeelRibbons$Leaves;)V"⟩, 10) := ⟨⟨by decide +kernel, by decide +kernel⟩, List.mem_of_getElem? (i := 145) (by decide +kernel), List.mem_of_getElem? (i := 629) (by decide +kernel), List.mem_of_getElem? (i := 630) (by decide +kernel)⟩
def lw_privs_1 : List (MethodName × Nat) := [(⟨"PeelRibbons$Axes", "seekIfStale", "()V"⟩, 4), (⟨"PeelRibbons$Axes", "seek", "()V"⟩, 4), (⟨"PeelRibbons$Axes", "keep", "(IIIII)V"⟩, 4), (⟨"PeelRibbons$Slices", "measure", "(I)V"⟩, 8), (⟨"PeelRibbons$Slices", "nearestInColumnOf", "(III)I"⟩, 8), (⟨"PeelRibbons$Slices", "isIn", "(III)Z"⟩, 8), (⟨"PeelRibbons$Slices", "indexOf", "(III)I"⟩, 8), (⟨"PeelRibbons$Slices", "gap", "(II)I"⟩, 8), (⟨"PeelRibbons$Slices", "nearestOverColumns", "(I)I"⟩, 8), (⟨"PeelRibbons$Axes", "seekFrom", "(II)V"⟩, 4), (⟨"PeelRibbons$Axes", "roomAbove", "(IIIII)I"⟩, 4), (⟨"PeelRibbons$Axes", "placeAt", "(III)I"⟩, 4), (⟨"java/lang/Throwable", "fillInStackTrace", "(I)Ljava/lang/Throwable;"⟩, 6), (⟨"PeelRibbons$Clipping", "markFaults", "(LPeelRibbons$Ribbon;LPeelRibbons$Faults;I)V"⟩, 10), (⟨"PeelRibbons$Clipping", "chooseFromTheEnd", "(LPeelRibbons$Leaves;)V"⟩, 10), (⟨"PeelRibbons$Clipping", "chooseAt", "(ILPeelRibbons$Leaves;)V"⟩, 10)]
theorem lw_r1 : ∀ q ∈ lw_privs_1, lw_okq q := List.forall_mem_cons.mpr ⟨lw_p0, List.forall_mem_cons.mpr ⟨lw_p1, List.forall_mem_cons.mpr ⟨lw_p2, List.forall_mem_cons.mpr ⟨lw_p3, List.forall_mem_cons.mpr ⟨lw_p4, List.forall_mem_cons.mpr ⟨lw_p5, List.forall_mem_cons.mpr ⟨lw_p6, List.forall_mem_cons.mpr ⟨lw_p7, List.forall_mem_cons.mpr ⟨lw_p8, List.forall_mem_cons.mpr ⟨lw_p9, List.forall_mem_cons.mpr ⟨lw_p10, List.forall_mem_cons.mpr ⟨lw_p11, List.forall_mem_cons.mpr ⟨lw_p12, List.forall_mem_cons.mpr ⟨lw_p13, List.forall_mem_cons.mpr ⟨lw_p14, List.forall_mem_cons.mpr ⟨lw_p15, fun _ h => absurd h List.not_mem_nil⟩⟩⟩⟩⟩⟩⟩⟩⟩⟩⟩⟩⟩⟩⟩⟩
theorem lw_p16 : lw_okq (⟨"PeelRibbons$Clipping", "tryLeaf", "(IIJ)V"⟩, 10) := ⟨⟨by decide +kernel, by decide +kernel⟩, List.mem_of_getElem? (i := 145) (by decide +kernel), List.mem_of_getElem? (i := 643) (by decide +kernel), List.mem_of_getElem? (i := 644) (by decide +kernel)⟩
theorem lw_p17 : lw_okq (⟨"PeelRibbons$Clipping", "listFromTheBegin", "(LPeelRibbons$Leaves;)V"⟩, 10) := ⟨⟨by decide +kernel, by decide +kernel⟩, List.mem_of_getElem? (i := 145) (by decide +kernel), List.mem_of_getElem? (i := 647) (by decide +kernel), List.mem_of_getElem? (i := 648) (by decide +kernel)⟩
theorem lw_p18 : lw_okq (⟨"PeelRibbonsModel", "know", "()V"⟩, 32) := ⟨⟨by decide +kernel, by decide +kernel⟩, List.mem_of_getElem? (i := 734) (by decide +kernel), List.mem_of_getElem? (i := 852) (by decide +kernel), List.mem_of_getElem? (i := 853) (by decide +kernel)⟩
theorem lw_p19 : lw_okq (⟨"PeelRibbonsModel", "square", "(III)I"⟩, 32) := ⟨⟨by decide +kernel, by decide +kernel⟩, List.mem_of_getElem? (i := 734) (by decide +kernel), List.mem_of_getElem? (i := 856) (by decide +kernel), List.mem_of_getElem? (i := 857) (by decide +kernel)⟩
theorem lw_p20 : lw_okq (⟨"PeelRibbonsModel", "roomAt", "(IIII)I"⟩, 32) := ⟨⟨by decide +kernel, by decide +kernel⟩, List.mem_of_getElem? (i := 734) (by decide +kernel), List.mem_of_getElem? (i := 866) (by decide +kernel), List.mem_of_getElem? (i := 867) (by decide +kernel)⟩
theorem lw_p21 : lw_okq (⟨"PeelRibbonsModel", "beforeTurn", "(I)I"⟩, 32) := ⟨⟨by decide +kernel, by decide +kernel⟩, List.mem_of_getElem? (i := 734) (by decide +kernel), List.mem_of_getElem? (i := 892) (by decide +kernel), List.mem_of_getElem? (i := 893) (by decide +kernel)⟩
theorem lw_p22 : lw_okq (⟨"PeelRibbonsModel", "placeOf", "(I)I"⟩, 32) := ⟨⟨by decide +kernel, by decide +kernel⟩, List.mem_of_getElem? (i := 734) (by decide +kernel), List.mem_of_getElem? (i := 904) (by decide +kernel), List.mem_of_getElem? (i := 905) (by decide +kernel)⟩
theorem lw_p23 : lw_okq (⟨"PeelRibbonsModel", "fits", "(II)Z"⟩, 32) := ⟨⟨by decide +kernel, by decide +kernel⟩, List.mem_of_getElem? (i := 734) (by decide +kernel), List.mem_of_getElem? (i := 920) (by decide +kernel), List.mem_of_getElem? (i := 921) (by decide +kernel)⟩
theorem lw_p24 : lw_okq (⟨"PeelRibbonsModel", "side", "(II)I"⟩, 32) := ⟨⟨by decide +kernel, by decide +kernel⟩, List.mem_of_getElem? (i := 734) (by decide +kernel), List.mem_of_getElem? (i := 924) (by decide +kernel), List.mem_of_getElem? (i := 925) (by decide +kernel)⟩
def lw_privs_2 : List (MethodName × Nat) := [(⟨"PeelRibbons$Clipping", "tryLeaf", "(IIJ)V"⟩, 10), (⟨"PeelRibbons$Clipping", "listFromTheBegin", "(LPeelRibbons$Leaves;)V"⟩, 10), (⟨"PeelRibbonsModel", "know", "()V"⟩, 32), (⟨"PeelRibbonsModel", "square", "(III)I"⟩, 32), (⟨"PeelRibbonsModel", "roomAt", "(IIII)I"⟩, 32), (⟨"PeelRibbonsModel", "beforeTurn", "(I)I"⟩, 32), (⟨"PeelRibbonsModel", "placeOf", "(I)I"⟩, 32), (⟨"PeelRibbonsModel", "fits", "(II)Z"⟩, 32), (⟨"PeelRibbonsModel", "side", "(II)I"⟩, 32)]
theorem lw_r2 : ∀ q ∈ lw_privs_2, lw_okq q := List.forall_mem_cons.mpr ⟨lw_p16, List.forall_mem_cons.mpr ⟨lw_p17, List.forall_mem_cons.mpr ⟨lw_p18, List.forall_mem_cons.mpr ⟨lw_p19, List.forall_mem_cons.mpr ⟨lw_p20, List.forall_mem_cons.mpr ⟨lw_p21, List.forall_mem_cons.mpr ⟨lw_p22, List.forall_mem_cons.mpr ⟨lw_p23, List.forall_mem_cons.mpr ⟨lw_p24, fun _ h => absurd h List.not_mem_nil⟩⟩⟩⟩⟩⟩⟩⟩⟩
def lw_privs : List (MethodName × Nat) := lw_privs_1 ++ (lw_privs_2)
def lw_tbl : List Cond := k2_sels lw_privs ++ tables_1
theorem lw_privs_ok : ∀ q ∈ lw_privs, lw_okq q := by
  show ∀ q ∈ lw_privs_1 ++ (lw_privs_2), lw_okq q
  exact List.forall_mem_append.mpr ⟨lw_r1, lw_r2⟩
end
section
def gG : List Cond := lw_tbl.filter goodWord
theorem gG_of {w : Cond} (h : w ∈ lw_tbl) (hg : goodWord w = true) : w ∈ gG := List.mem_filter.mpr ⟨h, hg⟩
theorem gG_in {cx w : Cond} (h : w ∈ gG) : w ∈ cx :: gG := List.mem_cons_of_mem _ h
theorem gG_good {cx cy : Cond} (h : cy ∈ gG) : GoodIn (cx :: gG) (cy :: gG) := fun w hw => by
  have h1 : w ∈ gG := (List.mem_cons.mp hw).elim (fun e => by rw [e]; exact h) id
  exact ⟨List.mem_cons_of_mem _ h1, good_of_word (List.mem_filter.mp h1).2⟩
def R_P : String := "PeelRibbons"
def T_P : u_T := fun k => match k with
  | 0 => ("PeelRibbons", "slices", "LPeelRibbons$Slices;", true)
  | 1 => ("PeelRibbons", "axes", "LPeelRibbons$Axes;", true)
  | 2 => ("PeelRibbons", "ribbon", "LPeelRibbons$Ribbon;", true)
  | 3 => ("PeelRibbons", "faults", "LPeelRibbons$Faults;", true)
  | 4 => ("PeelRibbons", "leaves", "LPeelRibbons$Leaves;", true)
  | 5 => ("PeelRibbons", "clipping", "LPeelRibbons$Clipping;", true)
  | _ => ("PeelRibbons", "knifeRows", "LPeelRibbons$KnifeRows;", true)
def ty_P : Nat → FieldType := fun k => match k with
  | 0 => .object "PeelRibbons$Slices"
  | 1 => .object "PeelRibbons$Axes"
  | 2 => .object "PeelRibbons$Ribbon"
  | 3 => .object "PeelRibbons$Faults"
  | 4 => .object "PeelRibbons$Leaves"
  | 5 => .object "PeelRibbons$Clipping"
  | _ => .object "PeelRibbons$KnifeRows"
theorem nm_P : ∀ a, a < 7 → ∀ b, b < 7 → a ≠ b → (T_P a).2.1 ≠ (T_P b).2.1 := by decide +kernel
theorem tk_P : ∀ k, k < 7 → parseFieldDescriptor (T_P k).2.2.1 = some (ty_P k) := by decide +kernel
theorem inG_P : ∀ w ∈ u_ws R_P T_P 7, w ∈ gG := by decide +kernel
def R_S : String := "PeelRibbons$Slices"
def T_S : u_T := fun k => match k with
  | 0 => ("PeelRibbons$Slices", "count", "I", true)
  | 1 => ("PeelRibbons$Slices", "side", "I", true)
  | 2 => ("PeelRibbons$Slices", "parts", "I", true)
  | 3 => ("PeelRibbons$Slices", "reach", "I", true)
  | 4 => ("PeelRibbons$Slices", "in", "[Z", true)
  | 5 => ("PeelRibbons$Slices", "nearest", "[I", true)
  | 6 => ("PeelRibbons$Slices", "isStale", "[Z", true)
  | _ => ("PeelRibbons$Slices", "nearestInColumn", "[I", true)
def ty_S : Nat → FieldType := fun k => match k with
  | 0 => .int
  | 1 => .int
  | 2 => .int
  | 3 => .int
  | 4 => .array .boolean
  | 5 => .array .int
  | 6 => .array .boolean
  | _ => .array .int
theorem nm_S : ∀ a, a < 8 → ∀ b, b < 8 → a ≠ b → (T_S a).2.1 ≠ (T_S b).2.1 := by decide +kernel
theorem tk_S : ∀ k, k < 8 → parseFieldDescriptor (T_S k).2.2.1 = some (ty_S k) := by decide +kernel
theorem inG_S : ∀ w ∈ u_ws R_S T_S 8, w ∈ gG := by decide +kernel
def R_A : String := "PeelRibbons$Axes"
def T_A : u_T := fun k => match k with
  | 0 => ("PeelRibbons$Axes", "slices", "LPeelRibbons$Slices;", true)
  | 1 => ("PeelRibbons$Axes", "numbers", "[I", true)
  | 2 => ("PeelRibbons$Axes", "room", "I", false)
  | _ => ("PeelRibbons$Axes", "isStale", "Z", false)
def ty_A : Nat → FieldType := fun k => match k with
  | 0 => .object "PeelRibbons$Slices"
  | 1 => .array .int
  | 2 => .int
  | _ => .boolean
theorem nm_A : ∀ a, a < 4 → ∀ b, b < 4 → a ≠ b → (T_A a).2.1 ≠ (T_A b).2.1 := by decide +kernel
theorem tk_A : ∀ k, k < 4 → parseFieldDescriptor (T_A k).2.2.1 = some (ty_A k) := by decide +kernel
theorem inG_A : ∀ w ∈ u_ws R_A T_A 4, w ∈ gG := by decide +kernel
def R_R : String := "PeelRibbons$Ribbon"
def T_R : u_T := fun k => match k with
  | 0 => ("PeelRibbons$Ribbon", "isPeeled", "Z", false)
  | 1 => ("PeelRibbons$Ribbon", "radius", "I", false)
  | 2 => ("PeelRibbons$Ribbon", "thick", "I", false)
  | _ => ("PeelRibbons$Ribbon", "turns", "I", false)
def ty_R : Nat → FieldType := fun k => match k with
  | 0 => .boolean
  | 1 => .int
  | 2 => .int
  | _ => .int
theorem nm_R : ∀ a, a < 4 → ∀ b, b < 4 → a ≠ b → (T_R a).2.1 ≠ (T_R b).2.1 := by decide +kernel
theorem tk_R : ∀ k, k < 4 → parseFieldDescriptor (T_R k).2.2.1 = some (ty_R k) := by decide +kernel
theorem inG_R : ∀ w ∈ u_ws R_R T_R 4, w ∈ gG := by decide +kernel
def R_F : String := "PeelRibbons$Faults"
def T_F : u_T := fun k => match k with
  | 0 => ("PeelRibbons$Faults", "angles", "[I", true)
  | 1 => ("PeelRibbons$Faults", "radii", "[I", true)
  | 2 => ("PeelRibbons$Faults", "kinds", "[I", true)
  | _ => ("PeelRibbons$Faults", "count", "I", false)
def ty_F : Nat → FieldType := fun k => match k with
  | 0 => .array .int
  | 1 => .array .int
  | 2 => .array .int
  | _ => .int
theorem nm_F : ∀ a, a < 4 → ∀ b, b < 4 → a ≠ b → (T_F a).2.1 ≠ (T_F b).2.1 := by decide +kernel
theorem tk_F : ∀ k, k < 4 → parseFieldDescriptor (T_F k).2.2.1 = some (ty_F k) := by decide +kernel
theorem inG_F : ∀ w ∈ u_ws R_F T_F 4, w ∈ gG := by decide +kernel
def R_L : String := "PeelRibbons$Leaves"
def T_L : u_T := fun k => match k with
  | 0 => ("PeelRibbons$Leaves", "widths", "[I", true)
  | 1 => ("PeelRibbons$Leaves", "worths", "[I", true)
  | 2 => ("PeelRibbons$Leaves", "barredBits", "[I", true)
  | _ => ("PeelRibbons$Leaves", "count", "I", false)
def ty_L : Nat → FieldType := fun k => match k with
  | 0 => .array .int
  | 1 => .array .int
  | 2 => .array .int
  | _ => .int
theorem nm_L : ∀ a, a < 4 → ∀ b, b < 4 → a ≠ b → (T_L a).2.1 ≠ (T_L b).2.1 := by decide +kernel
theorem tk_L : ∀ k, k < 4 → parseFieldDescriptor (T_L k).2.2.1 = some (ty_L k) := by decide +kernel
theorem inG_L : ∀ w ∈ u_ws R_L T_L 4, w ∈ gG := by decide +kernel
def R_C : String := "PeelRibbons$Clipping"
def T_C : u_T := fun k => match k with
  | 0 => ("PeelRibbons$Clipping", "kindBitsAt", "[I", true)
  | 1 => ("PeelRibbons$Clipping", "bestFrom", "[J", true)
  | 2 => ("PeelRibbons$Clipping", "choiceAt", "[I", true)
  | 3 => ("PeelRibbons$Clipping", "firstSteps", "[I", true)
  | 4 => ("PeelRibbons$Clipping", "clearUntil", "[I", true)
  | 5 => ("PeelRibbons$Clipping", "isDone", "Z", false)
  | 6 => ("PeelRibbons$Clipping", "steps", "I", false)
  | 7 => ("PeelRibbons$Clipping", "count", "I", false)
  | 8 => ("PeelRibbons$Clipping", "worth", "I", false)
  | _ => ("PeelRibbons$Clipping", "waste", "I", false)
def ty_C : Nat → FieldType := fun k => match k with
  | 0 => .array .int
  | 1 => .array .long
  | 2 => .array .int
  | 3 => .array .int
  | 4 => .array .int
  | 5 => .boolean
  | 6 => .int
  | 7 => .int
  | 8 => .int
  | _ => .int
theorem nm_C : ∀ a, a < 10 → ∀ b, b < 10 → a ≠ b → (T_C a).2.1 ≠ (T_C b).2.1 := by decide +kernel
theorem tk_C : ∀ k, k < 10 → parseFieldDescriptor (T_C k).2.2.1 = some (ty_C k) := by decide +kernel
theorem inG_C : ∀ w ∈ u_ws R_C T_C 10, w ∈ gG := by decide +kernel
def R_K : String := "PeelRibbons$KnifeRows"
def T_K : u_T := fun k => match k with
  | 0 => ("PeelRibbons$KnifeRows", "radii", "[I", true)
  | 1 => ("PeelRibbons$KnifeRows", "angles", "[I", true)
  | _ => ("PeelRibbons$KnifeRows", "count", "I", false)
def ty_K : Nat → FieldType := fun k => match k with
  | 0 => .array .int
  | 1 => .array .int
  | _ => .int
theorem nm_K : ∀ a, a < 3 → ∀ b, b < 3 → a ≠ b → (T_K a).2.1 ≠ (T_K b).2.1 := by decide +kernel
theorem tk_K : ∀ k, k < 3 → parseFieldDescriptor (T_K k).2.2.1 = some (ty_K k) := by decide +kernel
theorem inG_K : ∀ w ∈ u_ws R_K T_K 3, w ∈ gG := by decide +kernel
def R_M : String := "PeelRibbonsModel"
def T_M : u_T := fun k => match k with
  | 0 => ("PeelRibbonsModel", "thrown", "I", false)
  | 1 => ("PeelRibbonsModel", "slices", "I", false)
  | 2 => ("PeelRibbonsModel", "side", "I", false)
  | 3 => ("PeelRibbonsModel", "parts", "I", false)
  | 4 => ("PeelRibbonsModel", "in", "[Z", true)
  | 5 => ("PeelRibbonsModel", "squares", "[I", true)
  | 6 => ("PeelRibbonsModel", "known", "Z", false)
  | 7 => ("PeelRibbonsModel", "room", "I", false)
  | 8 => ("PeelRibbonsModel", "axis", "[I", true)
  | 9 => ("PeelRibbonsModel", "peeled", "Z", false)
  | 10 => ("PeelRibbonsModel", "thick", "I", false)
  | 11 => ("PeelRibbonsModel", "turns", "I", false)
  | 12 => ("PeelRibbonsModel", "radius", "I", false)
  | 13 => ("PeelRibbonsModel", "angles", "[I", true)
  | 14 => ("PeelRibbonsModel", "radii", "[I", true)
  | 15 => ("PeelRibbonsModel", "kinds", "[I", true)
  | 16 => ("PeelRibbonsModel", "faults", "I", false)
  | 17 => ("PeelRibbonsModel", "widths", "[I", true)
  | 18 => ("PeelRibbonsModel", "worths", "[I", true)
  | 19 => ("PeelRibbonsModel", "barred", "[I", true)
  | 20 => ("PeelRibbonsModel", "leaves", "I", false)
  | 21 => ("PeelRibbonsModel", "clipped", "Z", false)
  | 22 => ("PeelRibbonsModel", "steps", "I", false)
  | 23 => ("PeelRibbonsModel", "marks", "[I", true)
  | 24 => ("PeelRibbonsModel", "best", "[J", true)
  | 25 => ("PeelRibbonsModel", "waste", "[I", true)
  | 26 => ("PeelRibbonsModel", "chosen", "[I", true)
  | 27 => ("PeelRibbonsModel", "begins", "[I", true)
  | 28 => ("PeelRibbonsModel", "many", "I", false)
  | 29 => ("PeelRibbonsModel", "knifeRadii", "[I", true)
  | 30 => ("PeelRibbonsModel", "knifeAngles", "[I", true)
  | _ => ("PeelRibbonsModel", "rows", "I", false)
def ty_M : Nat → FieldType := fun k => match k with
  | 0 => .int
  | 1 => .int
  | 2 => .int
  | 3 => .int
  | 4 => .array .boolean
  | 5 => .array .int
  | 6 => .boolean
  | 7 => .int
  | 8 => .array .int
  | 9 => .boolean
  | 10 => .int
  | 11 => .int
  | 12 => .int
  | 13 => .array .int
  | 14 => .array .int
  | 15 => .array .int
  | 16 => .int
  | 17 => .array .int
  | 18 => .array .int
  | 19 => .array .int
  | 20 => .int
  | 21 => .boolean
  | 22 => .int
  | 23 => .array .int
  | 24 => .array .long
  | 25 => .array .int
  | 26 => .array .int
  | 27 => .array .int
  | 28 => .int
  | 29 => .array .int
  | 30 => .array .int
  | _ => .int
theorem nm_M : ∀ a, a < 32 → ∀ b, b < 32 → a ≠ b → (T_M a).2.1 ≠ (T_M b).2.1 := by decide +kernel
theorem tk_M : ∀ k, k < 32 → parseFieldDescriptor (T_M k).2.2.1 = some (ty_M k) := by decide +kernel
theorem inG_M : ∀ w ∈ u_ws R_M T_M 32, w ∈ gG := by decide +kernel
abbrev vwC : List vw_C := [(R_P, T_P, 7), (R_S, T_S, 8), (R_A, T_A, 4), (R_R, T_R, 4), (R_F, T_F, 4), (R_L, T_L, 4), (R_C, T_C, 10), (R_K, T_K, 3), (R_M, T_M, 32)]
def R_W : String := "PeelRibbonsLaw"
abbrev b_P_init : ByteArray := prog_1_method_1_code
def y_P_init : MethodName := ⟨R_P, "<init>", "(II)V"⟩
set_option maxRecDepth 20000 in
theorem k_P_init : Cond.code y_P_init b_P_init 3 none ∈ gG := gG_of (List.mem_of_getElem? (i := 46) rfl) rfl
abbrev ws_P_init : List Cond := .code y_P_init b_P_init 3 none :: gG
abbrev b_P_cell : ByteArray := prog_1_method_2_code
def y_P_cell : MethodName := ⟨R_P, "cell", "(IIIZ)Z"⟩
set_option maxRecDepth 20000 in
theorem k_P_cell : Cond.code y_P_cell b_P_cell 6 (some .boolean) ∈ gG := gG_of (List.mem_of_getElem? (i := 349) rfl) rfl
abbrev ws_P_cell : List Cond := .code y_P_cell b_P_cell 6 (some .boolean) :: gG
abbrev b_P_room : ByteArray := prog_1_method_3_code
def y_P_room : MethodName := ⟨R_P, "room", "()I"⟩
set_option maxRecDepth 20000 in
theorem k_P_room : Cond.code y_P_room b_P_room 1 (some .int) ∈ gG := gG_of (List.mem_of_getElem? (i := 248) rfl) rfl
abbrev ws_P_room : List Cond := .code y_P_room b_P_room 1 (some .int) :: gG
abbrev b_P_axis : ByteArray := prog_1_method_4_code
def y_P_axis : MethodName := ⟨R_P, "axis", "(I)I"⟩
set_option maxRecDepth 20000 in
theorem k_P_axis : Cond.code y_P_axis b_P_axis 2 (some .int) ∈ gG := gG_of (List.mem_of_getElem? (i := 441) rfl) rfl
abbrev ws_P_axis : List Cond := .code y_P_axis b_P_axis 2 (some .int) :: gG
abbrev b_P_radius : ByteArray := prog_1_method_5_code
def y_P_radius : MethodName := ⟨R_P, "radius", "()I"⟩
set_option maxRecDepth 20000 in
theorem k_P_radius : Cond.code y_P_radius b_P_radius 1 (some .int) ∈ gG := gG_of (List.mem_of_getElem? (i := 331) rfl) rfl
abbrev ws_P_radius : List Cond := .code y_P_radius b_P_radius 1 (some .int) :: gG
abbrev b_P_roomOf : ByteArray := prog_1_method_6_code
def y_P_roomOf : MethodName := ⟨R_P, "roomOf", "(IIII)I"⟩
set_option maxRecDepth 20000 in
theorem k_P_roomOf : Cond.code y_P_roomOf b_P_roomOf 5 (some .int) ∈ gG := gG_of (List.mem_of_getElem? (i := 454) rfl) rfl
abbrev ws_P_roomOf : List Cond := .code y_P_roomOf b_P_roomOf 5 (some .int) :: gG
abbrev b_P_peel : ByteArray := prog_1_method_7_code
def y_P_peel : MethodName := ⟨R_P, "peel", "(II)I"⟩
set_option maxRecDepth 20000 in
theorem k_P_peel : Cond.code y_P_peel b_P_peel 3 (some .int) ∈ gG := gG_of (List.mem_of_getElem? (i := 471) rfl) rfl
abbrev ws_P_peel : List Cond := .code y_P_peel b_P_peel 3 (some .int) :: gG
abbrev b_P_before : ByteArray := prog_1_method_8_code
def y_P_before : MethodName := ⟨R_P, "before", "(I)I"⟩
set_option maxRecDepth 20000 in
theorem k_P_before : Cond.code y_P_before b_P_before 2 (some .int) ∈ gG := gG_of (List.mem_of_getElem? (i := 504) rfl) rfl
abbrev ws_P_before : List Cond := .code y_P_before b_P_before 2 (some .int) :: gG
abbrev b_P_fault : ByteArray := prog_1_method_9_code
def y_P_fault : MethodName := ⟨R_P, "fault", "(III)I"⟩
set_option maxRecDepth 20000 in
theorem k_P_fault : Cond.code y_P_fault b_P_fault 4 (some .int) ∈ gG := gG_of (List.mem_of_getElem? (i := 539) rfl) rfl
abbrev ws_P_fault : List Cond := .code y_P_fault b_P_fault 4 (some .int) :: gG
abbrev b_P_unrolled : ByteArray := prog_1_method_10_code
def y_P_unrolled : MethodName := ⟨R_P, "unrolled", "(I)I"⟩
set_option maxRecDepth 20000 in
theorem k_P_unrolled : Cond.code y_P_unrolled b_P_unrolled 2 (some .int) ∈ gG := gG_of (List.mem_of_getElem? (i := 559) rfl) rfl
abbrev ws_P_unrolled : List Cond := .code y_P_unrolled b_P_unrolled 2 (some .int) :: gG
abbrev b_P_leaf : ByteArray := prog_1_method_11_code
def y_P_leaf : MethodName := ⟨R_P, "leaf", "(II)I"⟩
set_option maxRecDepth 20000 in
theorem k_P_leaf : Cond.code y_P_leaf b_P_leaf 3 (some .int) ∈ gG := gG_of (List.mem_of_getElem? (i := 581) rfl) rfl
abbrev ws_P_leaf : List Cond := .code y_P_leaf b_P_leaf 3 (some .int) :: gG
abbrev b_P_bars : ByteArray := prog_1_method_12_code
def y_P_bars : MethodName := ⟨R_P, "bars", "(IIZ)Z"⟩
set_option maxRecDepth 20000 in
theorem k_P_bars : Cond.code y_P_bars b_P_bars 5 (some .boolean) ∈ gG := gG_of (List.mem_of_getElem? (i := 599) rfl) rfl
abbrev ws_P_bars : List Cond := .code y_P_bars b_P_bars 5 (some .boolean) :: gG
abbrev b_P_clip : ByteArray := prog_1_method_13_code
def y_P_clip : MethodName := ⟨R_P, "clip", "(I)I"⟩
set_option maxRecDepth 20000 in
theorem k_P_clip : Cond.code y_P_clip b_P_clip 2 (some .int) ∈ gG := gG_of (List.mem_of_getElem? (i := 620) rfl) rfl
abbrev ws_P_clip : List Cond := .code y_P_clip b_P_clip 2 (some .int) :: gG
abbrev b_P_at : ByteArray := prog_1_method_14_code
def y_P_at : MethodName := ⟨R_P, "at", "(II)I"⟩
set_option maxRecDepth 20000 in
theorem k_P_at : Cond.code y_P_at b_P_at 3 (some .int) ∈ gG := gG_of (List.mem_of_getElem? (i := 685) rfl) rfl
abbrev ws_P_at : List Cond := .code y_P_at b_P_at 3 (some .int) :: gG
abbrev b_P_clipped : ByteArray := prog_1_method_15_code
def y_P_clipped : MethodName := ⟨R_P, "clipped", "(I)I"⟩
set_option maxRecDepth 20000 in
theorem k_P_clipped : Cond.code y_P_clipped b_P_clipped 2 (some .int) ∈ gG := gG_of (List.mem_of_getElem? (i := 706) rfl) rfl
abbrev ws_P_clipped : List Cond := .code y_P_clipped b_P_clipped 2 (some .int) :: gG
abbrev b_P_shrink : ByteArray := prog_1_method_16_code
def y_P_shrink : MethodName := ⟨R_P, "shrink", "(III)I"⟩
set_option maxRecDepth 20000 in
theorem k_P_shrink : Cond.code y_P_shrink b_P_shrink 4 (some .int) ∈ gG := gG_of (List.mem_of_getElem? (i := 726) rfl) rfl
abbrev ws_P_shrink : List Cond := .code y_P_shrink b_P_shrink 4 (some .int) :: gG
abbrev b_P_row : ByteArray := prog_1_method_17_code
def y_P_row : MethodName := ⟨R_P, "row", "(II)Z"⟩
set_option maxRecDepth 20000 in
theorem k_P_row : Cond.code y_P_row b_P_row 3 (some .boolean) ∈ gG := gG_of (List.mem_of_getElem? (i := 736) rfl) rfl
abbrev ws_P_row : List Cond := .code y_P_row b_P_row 3 (some .boolean) :: gG
abbrev b_P_knife : ByteArray := prog_1_method_18_code
def y_P_knife : MethodName := ⟨R_P, "knife", "(I)I"⟩
set_option maxRecDepth 20000 in
theorem k_P_knife : Cond.code y_P_knife b_P_knife 2 (some .int) ∈ gG := gG_of (List.mem_of_getElem? (i := 752) rfl) rfl
abbrev ws_P_knife : List Cond := .code y_P_knife b_P_knife 2 (some .int) :: gG
abbrev b_P_nearestOf : ByteArray := prog_1_method_19_code
def y_P_nearestOf : MethodName := ⟨R_P, "nearestOf", "(III)I"⟩
set_option maxRecDepth 20000 in
theorem k_P_nearestOf : Cond.code y_P_nearestOf b_P_nearestOf 3 (some .int) ∈ gG := gG_of (List.mem_of_getElem? (i := 54) rfl) rfl
abbrev ws_P_nearestOf : List Cond := .code y_P_nearestOf b_P_nearestOf 3 (some .int) :: gG
abbrev b_P_isWithin : ByteArray := prog_1_method_20_code
def y_P_isWithin : MethodName := ⟨R_P, "isWithin", "(III)Z"⟩
set_option maxRecDepth 20000 in
theorem k_P_isWithin : Cond.code y_P_isWithin b_P_isWithin 3 (some .boolean) ∈ gG := gG_of (List.mem_of_getElem? (i := 296) rfl) rfl
abbrev ws_P_isWithin : List Cond := .code y_P_isWithin b_P_isWithin 3 (some .boolean) :: gG
abbrev b_P_isKind : ByteArray := prog_1_method_21_code
def y_P_isKind : MethodName := ⟨R_P, "isKind", "(I)Z"⟩
set_option maxRecDepth 20000 in
theorem k_P_isKind : Cond.code y_P_isKind b_P_isKind 1 (some .boolean) ∈ gG := gG_of (List.mem_of_getElem? (i := 542) rfl) rfl
abbrev ws_P_isKind : List Cond := .code y_P_isKind b_P_isKind 1 (some .boolean) :: gG
abbrev b_S_init : ByteArray := prog_8_method_1_code
def y_S_init : MethodName := ⟨R_S, "<init>", "(II)V"⟩
set_option maxRecDepth 20000 in
theorem k_S_init : Cond.code y_S_init b_S_init 4 none ∈ gG := gG_of (List.mem_of_getElem? (i := 63) rfl) rfl
abbrev ws_S_init : List Cond := .code y_S_init b_S_init 4 none :: gG
abbrev b_S_count : ByteArray := prog_8_method_2_code
def y_S_count : MethodName := ⟨R_S, "count", "()I"⟩
set_option maxRecDepth 20000 in
theorem k_S_count : Cond.code y_S_count b_S_count 1 (some .int) ∈ gG := gG_of (List.mem_of_getElem? (i := 322) rfl) rfl
abbrev ws_S_count : List Cond := .code y_S_count b_S_count 1 (some .int) :: gG
abbrev b_S_side : ByteArray := prog_8_method_3_code
def y_S_side : MethodName := ⟨R_S, "side", "()I"⟩
set_option maxRecDepth 20000 in
theorem k_S_side : Cond.code y_S_side b_S_side 1 (some .int) ∈ gG := gG_of (List.mem_of_getElem? (i := 268) rfl) rfl
abbrev ws_S_side : List Cond := .code y_S_side b_S_side 1 (some .int) :: gG
abbrev b_S_parts : ByteArray := prog_8_method_4_code
def y_S_parts : MethodName := ⟨R_S, "parts", "()I"⟩
set_option maxRecDepth 20000 in
theorem k_S_parts : Cond.code y_S_parts b_S_parts 1 (some .int) ∈ gG := gG_of (List.mem_of_getElem? (i := 272) rfl) rfl
abbrev ws_S_parts : List Cond := .code y_S_parts b_S_parts 1 (some .int) :: gG
abbrev b_S_hasCell : ByteArray := prog_8_method_5_code
def y_S_hasCell : MethodName := ⟨R_S, "hasCell", "(III)Z"⟩
set_option maxRecDepth 20000 in
theorem k_S_hasCell : Cond.code y_S_hasCell b_S_hasCell 4 (some .boolean) ∈ gG := gG_of (List.mem_of_getElem? (i := 293) rfl) rfl
abbrev ws_S_hasCell : List Cond := .code y_S_hasCell b_S_hasCell 4 (some .boolean) :: gG
abbrev b_S_hasCorner : ByteArray := prog_8_method_6_code
def y_S_hasCorner : MethodName := ⟨R_S, "hasCorner", "(II)Z"⟩
set_option maxRecDepth 20000 in
theorem k_S_hasCorner : Cond.code y_S_hasCorner b_S_hasCorner 3 (some .boolean) ∈ gG := gG_of (List.mem_of_getElem? (i := 458) rfl) rfl
abbrev ws_S_hasCorner : List Cond := .code y_S_hasCorner b_S_hasCorner 3 (some .boolean) :: gG
abbrev b_S_tell : ByteArray := prog_8_method_7_code
def y_S_tell : MethodName := ⟨R_S, "tell", "(IIIZ)Z"⟩
set_option maxRecDepth 20000 in
theorem k_S_tell : Cond.code y_S_tell b_S_tell 7 (some .boolean) ∈ gG := gG_of (List.mem_of_getElem? (i := 422) rfl) rfl
abbrev ws_S_tell : List Cond := .code y_S_tell b_S_tell 7 (some .boolean) :: gG
abbrev b_S_nearestAt : ByteArray := prog_8_method_8_code
def y_S_nearestAt : MethodName := ⟨R_S, "nearestAt", "(III)I"⟩
set_option maxRecDepth 20000 in
theorem k_S_nearestAt : Cond.code y_S_nearestAt b_S_nearestAt 4 (some .int) ∈ gG := gG_of (List.mem_of_getElem? (i := 276) rfl) rfl
abbrev ws_S_nearestAt : List Cond := .code y_S_nearestAt b_S_nearestAt 4 (some .int) :: gG
abbrev b_S_measure : ByteArray := prog_8_method_9_code
def y_S_measure : MethodName := ⟨R_S, "measure", "(I)V"⟩
set_option maxRecDepth 20000 in
theorem k_S_measure : Cond.code y_S_measure b_S_measure 4 none ∈ gG := gG_of (List.mem_of_getElem? (i := 280) rfl) rfl
abbrev ws_S_measure : List Cond := .code y_S_measure b_S_measure 4 none :: gG
abbrev b_S_nearestInColumnOf : ByteArray := prog_8_method_10_code
def y_S_nearestInColumnOf : MethodName := ⟨R_S, "nearestInColumnOf", "(III)I"⟩
set_option maxRecDepth 20000 in
theorem k_S_nearestInColumnOf : Cond.code y_S_nearestInColumnOf b_S_nearestInColumnOf 7 (some .int) ∈ gG := gG_of (List.mem_of_getElem? (i := 284) rfl) rfl
abbrev ws_S_nearestInColumnOf : List Cond := .code y_S_nearestInColumnOf b_S_nearestInColumnOf 7 (some .int) :: gG
abbrev b_S_nearestOverColumns : ByteArray := prog_8_method_11_code
def y_S_nearestOverColumns : MethodName := ⟨R_S, "nearestOverColumns", "(I)I"⟩
set_option maxRecDepth 20000 in
theorem k_S_nearestOverColumns : Cond.code y_S_nearestOverColumns b_S_nearestOverColumns 5 (some .int) ∈ gG := gG_of (List.mem_of_getElem? (i := 309) rfl) rfl
abbrev ws_S_nearestOverColumns : List Cond := .code y_S_nearestOverColumns b_S_nearestOverColumns 5 (some .int) :: gG
abbrev b_S_isIn : ByteArray := prog_8_method_12_code
def y_S_isIn : MethodName := ⟨R_S, "isIn", "(III)Z"⟩
set_option maxRecDepth 20000 in
theorem k_S_isIn : Cond.code y_S_isIn b_S_isIn 4 (some .boolean) ∈ gG := gG_of (List.mem_of_getElem? (i := 289) rfl) rfl
abbrev ws_S_isIn : List Cond := .code y_S_isIn b_S_isIn 4 (some .boolean) :: gG
abbrev b_S_indexOf : ByteArray := prog_8_method_13_code
def y_S_indexOf : MethodName := ⟨R_S, "indexOf", "(III)I"⟩
set_option maxRecDepth 20000 in
theorem k_S_indexOf : Cond.code y_S_indexOf b_S_indexOf 4 (some .int) ∈ gG := gG_of (List.mem_of_getElem? (i := 300) rfl) rfl
abbrev ws_S_indexOf : List Cond := .code y_S_indexOf b_S_indexOf 4 (some .int) :: gG
abbrev b_S_gap : ByteArray := prog_8_method_14_code
def y_S_gap : MethodName := ⟨R_S, "gap", "(II)I"⟩
set_option maxRecDepth 20000 in
theorem k_S_gap : Cond.code y_S_gap b_S_gap 5 (some .int) ∈ gG := gG_of (List.mem_of_getElem? (i := 304) rfl) rfl
abbrev ws_S_gap : List Cond := .code y_S_gap b_S_gap 5 (some .int) :: gG
abbrev b_A_init : ByteArray := prog_2_method_1_code
def y_A_init : MethodName := ⟨R_A, "<init>", "(LPeelRibbons$Slices;)V"⟩
set_option maxRecDepth 20000 in
theorem k_A_init : Cond.code y_A_init b_A_init 2 none ∈ gG := gG_of (List.mem_of_getElem? (i := 97) rfl) rfl
abbrev ws_A_init : List Cond := .code y_A_init b_A_init 2 none :: gG
abbrev b_A_forget : ByteArray := prog_2_method_2_code
def y_A_forget : MethodName := ⟨R_A, "forget", "()V"⟩
set_option maxRecDepth 20000 in
theorem k_A_forget : Cond.code y_A_forget b_A_forget 1 none ∈ gG := gG_of (List.mem_of_getElem? (i := 426) rfl) rfl
abbrev ws_A_forget : List Cond := .code y_A_forget b_A_forget 1 none :: gG
abbrev b_A_number : ByteArray := prog_2_method_3_code
def y_A_number : MethodName := ⟨R_A, "number", "(I)I"⟩
set_option maxRecDepth 20000 in
theorem k_A_number : Cond.code y_A_number b_A_number 2 (some .int) ∈ gG := gG_of (List.mem_of_getElem? (i := 447) rfl) rfl
abbrev ws_A_number : List Cond := .code y_A_number b_A_number 2 (some .int) :: gG
abbrev b_A_greatestRoom : ByteArray := prog_2_method_4_code
def y_A_greatestRoom : MethodName := ⟨R_A, "greatestRoom", "()I"⟩
set_option maxRecDepth 20000 in
theorem k_A_greatestRoom : Cond.code y_A_greatestRoom b_A_greatestRoom 1 (some .int) ∈ gG := gG_of (List.mem_of_getElem? (i := 252) rfl) rfl
abbrev ws_A_greatestRoom : List Cond := .code y_A_greatestRoom b_A_greatestRoom 1 (some .int) :: gG
abbrev b_A_greatestRadius : ByteArray := prog_2_method_5_code
def y_A_greatestRadius : MethodName := ⟨R_A, "greatestRadius", "()I"⟩
set_option maxRecDepth 20000 in
theorem k_A_greatestRadius : Cond.code y_A_greatestRadius b_A_greatestRadius 1 (some .int) ∈ gG := gG_of (List.mem_of_getElem? (i := 335) rfl) rfl
abbrev ws_A_greatestRadius : List Cond := .code y_A_greatestRadius b_A_greatestRadius 1 (some .int) :: gG
abbrev b_A_exactRoom : ByteArray := prog_2_method_6_code
def y_A_exactRoom : MethodName := ⟨R_A, "exactRoom", "(IIII)I"⟩
set_option maxRecDepth 20000 in
theorem k_A_exactRoom : Cond.code y_A_exactRoom b_A_exactRoom 5 (some .int) ∈ gG := gG_of (List.mem_of_getElem? (i := 463) rfl) rfl
abbrev ws_A_exactRoom : List Cond := .code y_A_exactRoom b_A_exactRoom 5 (some .int) :: gG
abbrev b_A_roomAbove : ByteArray := prog_2_method_7_code
def y_A_roomAbove : MethodName := ⟨R_A, "roomAbove", "(IIIII)I"⟩
set_option maxRecDepth 20000 in
theorem k_A_roomAbove : Cond.code y_A_roomAbove b_A_roomAbove 10 (some .int) ∈ gG := gG_of (List.mem_of_getElem? (i := 317) rfl) rfl
abbrev ws_A_roomAbove : List Cond := .code y_A_roomAbove b_A_roomAbove 10 (some .int) :: gG
abbrev b_A_placeAt : ByteArray := prog_2_method_8_code
def y_A_placeAt : MethodName := ⟨R_A, "placeAt", "(III)I"⟩
set_option maxRecDepth 20000 in
theorem k_A_placeAt : Cond.code y_A_placeAt b_A_placeAt 4 (some .int) ∈ gG := gG_of (List.mem_of_getElem? (i := 326) rfl) rfl
abbrev ws_A_placeAt : List Cond := .code y_A_placeAt b_A_placeAt 4 (some .int) :: gG
abbrev b_A_seekIfStale : ByteArray := prog_2_method_9_code
def y_A_seekIfStale : MethodName := ⟨R_A, "seekIfStale", "()V"⟩
set_option maxRecDepth 20000 in
theorem k_A_seekIfStale : Cond.code y_A_seekIfStale b_A_seekIfStale 1 none ∈ gG := gG_of (List.mem_of_getElem? (i := 256) rfl) rfl
abbrev ws_A_seekIfStale : List Cond := .code y_A_seekIfStale b_A_seekIfStale 1 none :: gG
abbrev b_A_seek : ByteArray := prog_2_method_10_code
def y_A_seek : MethodName := ⟨R_A, "seek", "()V"⟩
set_option maxRecDepth 20000 in
theorem k_A_seek : Cond.code y_A_seek b_A_seek 3 none ∈ gG := gG_of (List.mem_of_getElem? (i := 260) rfl) rfl
abbrev ws_A_seek : List Cond := .code y_A_seek b_A_seek 3 none :: gG
abbrev b_A_seekFrom : ByteArray := prog_2_method_11_code
def y_A_seekFrom : MethodName := ⟨R_A, "seekFrom", "(II)V"⟩
set_option maxRecDepth 20000 in
theorem k_A_seekFrom : Cond.code y_A_seekFrom b_A_seekFrom 6 none ∈ gG := gG_of (List.mem_of_getElem? (i := 313) rfl) rfl
abbrev ws_A_seekFrom : List Cond := .code y_A_seekFrom b_A_seekFrom 6 none :: gG
abbrev b_A_keep : ByteArray := prog_2_method_12_code
def y_A_keep : MethodName := ⟨R_A, "keep", "(IIIII)V"⟩
set_option maxRecDepth 20000 in
theorem k_A_keep : Cond.code y_A_keep b_A_keep 6 none ∈ gG := gG_of (List.mem_of_getElem? (i := 264) rfl) rfl
abbrev ws_A_keep : List Cond := .code y_A_keep b_A_keep 6 none :: gG
abbrev b_A_rootOf : ByteArray := prog_2_method_13_code
def y_A_rootOf : MethodName := ⟨R_A, "rootOf", "(I)I"⟩
set_option maxRecDepth 20000 in
theorem k_A_rootOf : Cond.code y_A_rootOf b_A_rootOf 4 (some .int) ∈ gG := gG_of (List.mem_of_getElem? (i := 338) rfl) rfl
abbrev ws_A_rootOf : List Cond := .code y_A_rootOf b_A_rootOf 4 (some .int) :: gG
abbrev b_R_init : ByteArray := prog_7_method_1_code
def y_R_init : MethodName := ⟨R_R, "<init>", "()V"⟩
set_option maxRecDepth 20000 in
theorem k_R_init : Cond.code y_R_init b_R_init 1 none ∈ gG := gG_of (List.mem_of_getElem? (i := 116) rfl) rfl
abbrev ws_R_init : List Cond := .code y_R_init b_R_init 1 none :: gG
abbrev b_R_peelOff : ByteArray := prog_7_method_2_code
def y_R_peelOff : MethodName := ⟨R_R, "peelOff", "(III)V"⟩
set_option maxRecDepth 20000 in
theorem k_R_peelOff : Cond.code y_R_peelOff b_R_peelOff 4 none ∈ gG := gG_of (List.mem_of_getElem? (i := 491) rfl) rfl
abbrev ws_R_peelOff : List Cond := .code y_R_peelOff b_R_peelOff 4 none :: gG
abbrev b_R_forget : ByteArray := prog_7_method_3_code
def y_R_forget : MethodName := ⟨R_R, "forget", "()V"⟩
set_option maxRecDepth 20000 in
theorem k_R_forget : Cond.code y_R_forget b_R_forget 1 none ∈ gG := gG_of (List.mem_of_getElem? (i := 430) rfl) rfl
abbrev ws_R_forget : List Cond := .code y_R_forget b_R_forget 1 none :: gG
abbrev b_R_isPeeled : ByteArray := prog_7_method_4_code
def y_R_isPeeled : MethodName := ⟨R_R, "isPeeled", "()Z"⟩
set_option maxRecDepth 20000 in
theorem k_R_isPeeled : Cond.code y_R_isPeeled b_R_isPeeled 1 (some .boolean) ∈ gG := gG_of (List.mem_of_getElem? (i := 508) rfl) rfl
abbrev ws_R_isPeeled : List Cond := .code y_R_isPeeled b_R_isPeeled 1 (some .boolean) :: gG
abbrev b_R_turns : ByteArray := prog_7_method_5_code
def y_R_turns : MethodName := ⟨R_R, "turns", "()I"⟩
set_option maxRecDepth 20000 in
theorem k_R_turns : Cond.code y_R_turns b_R_turns 1 (some .int) ∈ gG := gG_of (List.mem_of_getElem? (i := 496) rfl) rfl
abbrev ws_R_turns : List Cond := .code y_R_turns b_R_turns 1 (some .int) :: gG
abbrev b_R_length : ByteArray := prog_7_method_6_code
def y_R_length : MethodName := ⟨R_R, "length", "()I"⟩
set_option maxRecDepth 20000 in
theorem k_R_length : Cond.code y_R_length b_R_length 1 (some .int) ∈ gG := gG_of (List.mem_of_getElem? (i := 630) rfl) rfl
abbrev ws_R_length : List Cond := .code y_R_length b_R_length 1 (some .int) :: gG
abbrev b_R_lengthBefore : ByteArray := prog_7_method_7_code
def y_R_lengthBefore : MethodName := ⟨R_R, "lengthBefore", "(I)I"⟩
set_option maxRecDepth 20000 in
theorem k_R_lengthBefore : Cond.code y_R_lengthBefore b_R_lengthBefore 3 (some .int) ∈ gG := gG_of (List.mem_of_getElem? (i := 529) rfl) rfl
abbrev ws_R_lengthBefore : List Cond := .code y_R_lengthBefore b_R_lengthBefore 3 (some .int) :: gG
abbrev b_R_placeOf : ByteArray := prog_7_method_8_code
def y_R_placeOf : MethodName := ⟨R_R, "placeOf", "(II)I"⟩
set_option maxRecDepth 20000 in
theorem k_R_placeOf : Cond.code y_R_placeOf b_R_placeOf 4 (some .int) ∈ gG := gG_of (List.mem_of_getElem? (i := 573) rfl) rfl
abbrev ws_R_placeOf : List Cond := .code y_R_placeOf b_R_placeOf 4 (some .int) :: gG
abbrev b_R_roundOf : ByteArray := prog_7_method_9_code
def y_R_roundOf : MethodName := ⟨R_R, "roundOf", "(I)I"⟩
set_option maxRecDepth 20000 in
theorem k_R_roundOf : Cond.code y_R_roundOf b_R_roundOf 1 (some .int) ∈ gG := gG_of (List.mem_of_getElem? (i := 532) rfl) rfl
abbrev ws_R_roundOf : List Cond := .code y_R_roundOf b_R_roundOf 1 (some .int) :: gG
abbrev b_F_init : ByteArray := prog_4_method_1_code
def y_F_init : MethodName := ⟨R_F, "<init>", "()V"⟩
set_option maxRecDepth 20000 in
theorem k_F_init : Cond.code y_F_init b_F_init 1 none ∈ gG := gG_of (List.mem_of_getElem? (i := 135) rfl) rfl
abbrev ws_F_init : List Cond := .code y_F_init b_F_init 1 none :: gG
abbrev b_F_isFull : ByteArray := prog_4_method_2_code
def y_F_isFull : MethodName := ⟨R_F, "isFull", "()Z"⟩
set_option maxRecDepth 20000 in
theorem k_F_isFull : Cond.code y_F_isFull b_F_isFull 1 (some .boolean) ∈ gG := gG_of (List.mem_of_getElem? (i := 547) rfl) rfl
abbrev ws_F_isFull : List Cond := .code y_F_isFull b_F_isFull 1 (some .boolean) :: gG
abbrev b_F_has : ByteArray := prog_4_method_3_code
def y_F_has : MethodName := ⟨R_F, "has", "(I)Z"⟩
set_option maxRecDepth 20000 in
theorem k_F_has : Cond.code y_F_has b_F_has 2 (some .boolean) ∈ gG := gG_of (List.mem_of_getElem? (i := 563) rfl) rfl
abbrev ws_F_has : List Cond := .code y_F_has b_F_has 2 (some .boolean) :: gG
abbrev b_F_count : ByteArray := prog_4_method_4_code
def y_F_count : MethodName := ⟨R_F, "count", "()I"⟩
set_option maxRecDepth 20000 in
theorem k_F_count : Cond.code y_F_count b_F_count 1 (some .int) ∈ gG := gG_of (List.mem_of_getElem? (i := 639) rfl) rfl
abbrev ws_F_count : List Cond := .code y_F_count b_F_count 1 (some .int) :: gG
abbrev b_F_add : ByteArray := prog_4_method_5_code
def y_F_add : MethodName := ⟨R_F, "add", "(III)I"⟩
set_option maxRecDepth 20000 in
theorem k_F_add : Cond.code y_F_add b_F_add 4 (some .int) ∈ gG := gG_of (List.mem_of_getElem? (i := 552) rfl) rfl
abbrev ws_F_add : List Cond := .code y_F_add b_F_add 4 (some .int) :: gG
abbrev b_F_kindBit : ByteArray := prog_4_method_6_code
def y_F_kindBit : MethodName := ⟨R_F, "kindBit", "(I)I"⟩
set_option maxRecDepth 20000 in
theorem k_F_kindBit : Cond.code y_F_kindBit b_F_kindBit 2 (some .int) ∈ gG := gG_of (List.mem_of_getElem? (i := 644) rfl) rfl
abbrev ws_F_kindBit : List Cond := .code y_F_kindBit b_F_kindBit 2 (some .int) :: gG
abbrev b_F_placeIn : ByteArray := prog_4_method_7_code
def y_F_placeIn : MethodName := ⟨R_F, "placeIn", "(LPeelRibbons$Ribbon;I)I"⟩
set_option maxRecDepth 20000 in
theorem k_F_placeIn : Cond.code y_F_placeIn b_F_placeIn 3 (some .int) ∈ gG := gG_of (List.mem_of_getElem? (i := 569) rfl) rfl
abbrev ws_F_placeIn : List Cond := .code y_F_placeIn b_F_placeIn 3 (some .int) :: gG
abbrev b_L_init : ByteArray := prog_6_method_1_code
def y_L_init : MethodName := ⟨R_L, "<init>", "()V"⟩
set_option maxRecDepth 20000 in
theorem k_L_init : Cond.code y_L_init b_L_init 1 none ∈ gG := gG_of (List.mem_of_getElem? (i := 154) rfl) rfl
abbrev ws_L_init : List Cond := .code y_L_init b_L_init 1 none :: gG
abbrev b_L_isFull : ByteArray := prog_6_method_2_code
def y_L_isFull : MethodName := ⟨R_L, "isFull", "()Z"⟩
set_option maxRecDepth 20000 in
theorem k_L_isFull : Cond.code y_L_isFull b_L_isFull 1 (some .boolean) ∈ gG := gG_of (List.mem_of_getElem? (i := 587) rfl) rfl
abbrev ws_L_isFull : List Cond := .code y_L_isFull b_L_isFull 1 (some .boolean) :: gG
abbrev b_L_has : ByteArray := prog_6_method_3_code
def y_L_has : MethodName := ⟨R_L, "has", "(I)Z"⟩
set_option maxRecDepth 20000 in
theorem k_L_has : Cond.code y_L_has b_L_has 2 (some .boolean) ∈ gG := gG_of (List.mem_of_getElem? (i := 603) rfl) rfl
abbrev ws_L_has : List Cond := .code y_L_has b_L_has 2 (some .boolean) :: gG
abbrev b_L_count : ByteArray := prog_6_method_4_code
def y_L_count : MethodName := ⟨R_L, "count", "()I"⟩
set_option maxRecDepth 20000 in
theorem k_L_count : Cond.code y_L_count b_L_count 1 (some .int) ∈ gG := gG_of (List.mem_of_getElem? (i := 652) rfl) rfl
abbrev ws_L_count : List Cond := .code y_L_count b_L_count 1 (some .int) :: gG
abbrev b_L_add : ByteArray := prog_6_method_5_code
def y_L_add : MethodName := ⟨R_L, "add", "(II)I"⟩
set_option maxRecDepth 20000 in
theorem k_L_add : Cond.code y_L_add b_L_add 3 (some .int) ∈ gG := gG_of (List.mem_of_getElem? (i := 592) rfl) rfl
abbrev ws_L_add : List Cond := .code y_L_add b_L_add 3 (some .int) :: gG
abbrev b_L_tellBar : ByteArray := prog_6_method_6_code
def y_L_tellBar : MethodName := ⟨R_L, "tellBar", "(IIZ)Z"⟩
set_option maxRecDepth 20000 in
theorem k_L_tellBar : Cond.code y_L_tellBar b_L_tellBar 5 (some .boolean) ∈ gG := gG_of (List.mem_of_getElem? (i := 609) rfl) rfl
abbrev ws_L_tellBar : List Cond := .code y_L_tellBar b_L_tellBar 5 (some .boolean) :: gG
abbrev b_L_barsAny : ByteArray := prog_6_method_7_code
def y_L_barsAny : MethodName := ⟨R_L, "barsAny", "(II)Z"⟩
set_option maxRecDepth 20000 in
theorem k_L_barsAny : Cond.code y_L_barsAny b_L_barsAny 3 (some .boolean) ∈ gG := gG_of (List.mem_of_getElem? (i := 613) rfl) rfl
abbrev ws_L_barsAny : List Cond := .code y_L_barsAny b_L_barsAny 3 (some .boolean) :: gG
abbrev b_L_width : ByteArray := prog_6_method_8_code
def y_L_width : MethodName := ⟨R_L, "width", "(I)I"⟩
set_option maxRecDepth 20000 in
theorem k_L_width : Cond.code y_L_width b_L_width 2 (some .int) ∈ gG := gG_of (List.mem_of_getElem? (i := 661) rfl) rfl
abbrev ws_L_width : List Cond := .code y_L_width b_L_width 2 (some .int) :: gG
abbrev b_L_worth : ByteArray := prog_6_method_9_code
def y_L_worth : MethodName := ⟨R_L, "worth", "(I)I"⟩
set_option maxRecDepth 20000 in
theorem k_L_worth : Cond.code y_L_worth b_L_worth 2 (some .int) ∈ gG := gG_of (List.mem_of_getElem? (i := 665) rfl) rfl
abbrev ws_L_worth : List Cond := .code y_L_worth b_L_worth 2 (some .int) :: gG
abbrev b_C_init : ByteArray := prog_3_method_1_code
def y_C_init : MethodName := ⟨R_C, "<init>", "()V"⟩
set_option maxRecDepth 20000 in
theorem k_C_init : Cond.code y_C_init b_C_init 1 none ∈ gG := gG_of (List.mem_of_getElem? (i := 173) rfl) rfl
abbrev ws_C_init : List Cond := .code y_C_init b_C_init 1 none :: gG
abbrev b_C_forget : ByteArray := prog_3_method_2_code
def y_C_forget : MethodName := ⟨R_C, "forget", "()V"⟩
set_option maxRecDepth 20000 in
theorem k_C_forget : Cond.code y_C_forget b_C_forget 1 none ∈ gG := gG_of (List.mem_of_getElem? (i := 434) rfl) rfl
abbrev ws_C_forget : List Cond := .code y_C_forget b_C_forget 1 none :: gG
abbrev b_C_isDone : ByteArray := prog_3_method_3_code
def y_C_isDone : MethodName := ⟨R_C, "isDone", "()Z"⟩
set_option maxRecDepth 20000 in
theorem k_C_isDone : Cond.code y_C_isDone b_C_isDone 1 (some .boolean) ∈ gG := gG_of (List.mem_of_getElem? (i := 689) rfl) rfl
abbrev ws_C_isDone : List Cond := .code y_C_isDone b_C_isDone 1 (some .boolean) :: gG
abbrev b_C_count : ByteArray := prog_3_method_4_code
def y_C_count : MethodName := ⟨R_C, "count", "()I"⟩
set_option maxRecDepth 20000 in
theorem k_C_count : Cond.code y_C_count b_C_count 1 (some .int) ∈ gG := gG_of (List.mem_of_getElem? (i := 678) rfl) rfl
abbrev ws_C_count : List Cond := .code y_C_count b_C_count 1 (some .int) :: gG
abbrev b_C_worth : ByteArray := prog_3_method_5_code
def y_C_worth : MethodName := ⟨R_C, "worth", "()I"⟩
set_option maxRecDepth 20000 in
theorem k_C_worth : Cond.code y_C_worth b_C_worth 1 (some .int) ∈ gG := gG_of (List.mem_of_getElem? (i := 711) rfl) rfl
abbrev ws_C_worth : List Cond := .code y_C_worth b_C_worth 1 (some .int) :: gG
abbrev b_C_waste : ByteArray := prog_3_method_6_code
def y_C_waste : MethodName := ⟨R_C, "waste", "()I"⟩
set_option maxRecDepth 20000 in
theorem k_C_waste : Cond.code y_C_waste b_C_waste 1 (some .int) ∈ gG := gG_of (List.mem_of_getElem? (i := 715) rfl) rfl
abbrev ws_C_waste : List Cond := .code y_C_waste b_C_waste 1 (some .int) :: gG
abbrev b_C_steps : ByteArray := prog_3_method_7_code
def y_C_steps : MethodName := ⟨R_C, "steps", "()I"⟩
set_option maxRecDepth 20000 in
theorem k_C_steps : Cond.code y_C_steps b_C_steps 1 (some .int) ∈ gG := gG_of (List.mem_of_getElem? (i := 719) rfl) rfl
abbrev ws_C_steps : List Cond := .code y_C_steps b_C_steps 1 (some .int) :: gG
abbrev b_C_leafOf : ByteArray := prog_3_method_8_code
def y_C_leafOf : MethodName := ⟨R_C, "leafOf", "(I)I"⟩
set_option maxRecDepth 20000 in
theorem k_C_leafOf : Cond.code y_C_leafOf b_C_leafOf 2 (some .int) ∈ gG := gG_of (List.mem_of_getElem? (i := 695) rfl) rfl
abbrev ws_C_leafOf : List Cond := .code y_C_leafOf b_C_leafOf 2 (some .int) :: gG
abbrev b_C_firstStepOf : ByteArray := prog_3_method_9_code
def y_C_firstStepOf : MethodName := ⟨R_C, "firstStepOf", "(I)I"⟩
set_option maxRecDepth 20000 in
theorem k_C_firstStepOf : Cond.code y_C_firstStepOf b_C_firstStepOf 2 (some .int) ∈ gG := gG_of (List.mem_of_getElem? (i := 699) rfl) rfl
abbrev ws_C_firstStepOf : List Cond := .code y_C_firstStepOf b_C_firstStepOf 2 (some .int) :: gG
abbrev b_C_cut : ByteArray := prog_3_method_10_code
def y_C_cut : MethodName := ⟨R_C, "cut", "(LPeelRibbons$Ribbon;LPeelRibbons$Faults;LPeelRibbons$Leaves;I)V"⟩
set_option maxRecDepth 20000 in
theorem k_C_cut : Cond.code y_C_cut b_C_cut 6 none ∈ gG := gG_of (List.mem_of_getElem? (i := 625) rfl) rfl
abbrev ws_C_cut : List Cond := .code y_C_cut b_C_cut 6 none :: gG
abbrev b_C_markFaults : ByteArray := prog_3_method_11_code
def y_C_markFaults : MethodName := ⟨R_C, "markFaults", "(LPeelRibbons$Ribbon;LPeelRibbons$Faults;I)V"⟩
set_option maxRecDepth 20000 in
theorem k_C_markFaults : Cond.code y_C_markFaults b_C_markFaults 6 none ∈ gG := gG_of (List.mem_of_getElem? (i := 635) rfl) rfl
abbrev ws_C_markFaults : List Cond := .code y_C_markFaults b_C_markFaults 6 none :: gG
abbrev b_C_chooseFromTheEnd : ByteArray := prog_3_method_12_code
def y_C_chooseFromTheEnd : MethodName := ⟨R_C, "chooseFromTheEnd", "(LPeelRibbons$Leaves;)V"⟩
set_option maxRecDepth 20000 in
theorem k_C_chooseFromTheEnd : Cond.code y_C_chooseFromTheEnd b_C_chooseFromTheEnd 3 none ∈ gG := gG_of (List.mem_of_getElem? (i := 648) rfl) rfl
abbrev ws_C_chooseFromTheEnd : List Cond := .code y_C_chooseFromTheEnd b_C_chooseFromTheEnd 3 none :: gG
abbrev b_C_chooseAt : ByteArray := prog_3_method_13_code
def y_C_chooseAt : MethodName := ⟨R_C, "chooseAt", "(ILPeelRibbons$Leaves;)V"⟩
set_option maxRecDepth 20000 in
theorem k_C_chooseAt : Cond.code y_C_chooseAt b_C_chooseAt 5 none ∈ gG := gG_of (List.mem_of_getElem? (i := 656) rfl) rfl
abbrev ws_C_chooseAt : List Cond := .code y_C_chooseAt b_C_chooseAt 5 none :: gG
abbrev b_C_tryLeaf : ByteArray := prog_3_method_14_code
def y_C_tryLeaf : MethodName := ⟨R_C, "tryLeaf", "(IIJ)V"⟩
set_option maxRecDepth 20000 in
theorem k_C_tryLeaf : Cond.code y_C_tryLeaf b_C_tryLeaf 5 none ∈ gG := gG_of (List.mem_of_getElem? (i := 670) rfl) rfl
abbrev ws_C_tryLeaf : List Cond := .code y_C_tryLeaf b_C_tryLeaf 5 none :: gG
abbrev b_C_listFromTheBegin : ByteArray := prog_3_method_15_code
def y_C_listFromTheBegin : MethodName := ⟨R_C, "listFromTheBegin", "(LPeelRibbons$Leaves;)V"⟩
set_option maxRecDepth 20000 in
theorem k_C_listFromTheBegin : Cond.code y_C_listFromTheBegin b_C_listFromTheBegin 5 none ∈ gG := gG_of (List.mem_of_getElem? (i := 674) rfl) rfl
abbrev ws_C_listFromTheBegin : List Cond := .code y_C_listFromTheBegin b_C_listFromTheBegin 5 none :: gG
abbrev b_K_init : ByteArray := prog_5_method_1_code
def y_K_init : MethodName := ⟨R_K, "<init>", "()V"⟩
set_option maxRecDepth 20000 in
theorem k_K_init : Cond.code y_K_init b_K_init 1 none ∈ gG := gG_of (List.mem_of_getElem? (i := 211) rfl) rfl
abbrev ws_K_init : List Cond := .code y_K_init b_K_init 1 none :: gG
abbrev b_K_isBelowLast : ByteArray := prog_5_method_2_code
def y_K_isBelowLast : MethodName := ⟨R_K, "isBelowLast", "(I)Z"⟩
set_option maxRecDepth 20000 in
theorem k_K_isBelowLast : Cond.code y_K_isBelowLast b_K_isBelowLast 2 (some .boolean) ∈ gG := gG_of (List.mem_of_getElem? (i := 740) rfl) rfl
abbrev ws_K_isBelowLast : List Cond := .code y_K_isBelowLast b_K_isBelowLast 2 (some .boolean) :: gG
abbrev b_K_add : ByteArray := prog_5_method_3_code
def y_K_add : MethodName := ⟨R_K, "add", "(II)Z"⟩
set_option maxRecDepth 20000 in
theorem k_K_add : Cond.code y_K_add b_K_add 3 (some .boolean) ∈ gG := gG_of (List.mem_of_getElem? (i := 745) rfl) rfl
abbrev ws_K_add : List Cond := .code y_K_add b_K_add 3 (some .boolean) :: gG
abbrev b_K_answerAt : ByteArray := prog_5_method_4_code
def y_K_answerAt : MethodName := ⟨R_K, "answerAt", "(I)I"⟩
set_option maxRecDepth 20000 in
theorem k_K_answerAt : Cond.code y_K_answerAt b_K_answerAt 3 (some .int) ∈ gG := gG_of (List.mem_of_getElem? (i := 757) rfl) rfl
abbrev ws_K_answerAt : List Cond := .code y_K_answerAt b_K_answerAt 3 (some .int) :: gG
abbrev b_M_init : ByteArray := prog_10_method_1_code
def y_M_init : MethodName := ⟨R_M, "<init>", "(II)V"⟩
set_option maxRecDepth 20000 in
theorem k_M_init : Cond.code y_M_init b_M_init 3 none ∈ gG := gG_of (List.mem_of_getElem? (i := 762) rfl) rfl
abbrev ws_M_init : List Cond := .code y_M_init b_M_init 3 none :: gG
abbrev b_M_thrown : ByteArray := prog_10_method_2_code
def y_M_thrown : MethodName := ⟨R_M, "thrown", "()I"⟩
set_option maxRecDepth 20000 in
theorem k_M_thrown : Cond.code y_M_thrown b_M_thrown 1 (some .int) ∈ gG := gG_of (List.mem_of_getElem? (i := 864) rfl) rfl
abbrev ws_M_thrown : List Cond := .code y_M_thrown b_M_thrown 1 (some .int) :: gG
abbrev b_M_isIn : ByteArray := prog_10_method_3_code
def y_M_isIn : MethodName := ⟨R_M, "isIn", "(III)Z"⟩
set_option maxRecDepth 20000 in
theorem k_M_isIn : Cond.code y_M_isIn b_M_isIn 3 (some .boolean) ∈ gG := gG_of (List.mem_of_getElem? (i := 871) rfl) rfl
abbrev ws_M_isIn : List Cond := .code y_M_isIn b_M_isIn 3 (some .boolean) :: gG
abbrev b_M_cell : ByteArray := prog_10_method_4_code
def y_M_cell : MethodName := ⟨R_M, "cell", "(IIIZ)Z"⟩
set_option maxRecDepth 20000 in
theorem k_M_cell : Cond.code y_M_cell b_M_cell 7 (some .boolean) ∈ gG := gG_of (List.mem_of_getElem? (i := 868) rfl) rfl
abbrev ws_M_cell : List Cond := .code y_M_cell b_M_cell 7 (some .boolean) :: gG
abbrev b_M_less : ByteArray := prog_10_method_5_code
def y_M_less : MethodName := ⟨R_M, "less", "(II)I"⟩
set_option maxRecDepth 20000 in
theorem k_M_less : Cond.code y_M_less b_M_less 2 (some .int) ∈ gG := gG_of (List.mem_of_getElem? (i := 886) rfl) rfl
abbrev ws_M_less : List Cond := .code y_M_less b_M_less 2 (some .int) :: gG
abbrev b_M_off : ByteArray := prog_10_method_6_code
def y_M_off : MethodName := ⟨R_M, "off", "(III)I"⟩
set_option maxRecDepth 20000 in
theorem k_M_off : Cond.code y_M_off b_M_off 3 (some .int) ∈ gG := gG_of (List.mem_of_getElem? (i := 889) rfl) rfl
abbrev ws_M_off : List Cond := .code y_M_off b_M_off 3 (some .int) :: gG
abbrev b_M_square : ByteArray := prog_10_method_7_code
def y_M_square : MethodName := ⟨R_M, "square", "(III)I"⟩
set_option maxRecDepth 20000 in
theorem k_M_square : Cond.code y_M_square b_M_square 11 (some .int) ∈ gG := gG_of (List.mem_of_getElem? (i := 883) rfl) rfl
abbrev ws_M_square : List Cond := .code y_M_square b_M_square 11 (some .int) :: gG
abbrev b_M_roomAt : ByteArray := prog_10_method_8_code
def y_M_roomAt : MethodName := ⟨R_M, "roomAt", "(IIII)I"⟩
set_option maxRecDepth 20000 in
theorem k_M_roomAt : Cond.code y_M_roomAt b_M_roomAt 9 (some .int) ∈ gG := gG_of (List.mem_of_getElem? (i := 893) rfl) rfl
abbrev ws_M_roomAt : List Cond := .code y_M_roomAt b_M_roomAt 9 (some .int) :: gG
abbrev b_M_know : ByteArray := prog_10_method_9_code
def y_M_know : MethodName := ⟨R_M, "know", "()V"⟩
set_option maxRecDepth 20000 in
theorem k_M_know : Cond.code y_M_know b_M_know 8 none ∈ gG := gG_of (List.mem_of_getElem? (i := 879) rfl) rfl
abbrev ws_M_know : List Cond := .code y_M_know b_M_know 8 none :: gG
abbrev b_M_room : ByteArray := prog_10_method_10_code
def y_M_room : MethodName := ⟨R_M, "room", "()I"⟩
set_option maxRecDepth 20000 in
theorem k_M_room : Cond.code y_M_room b_M_room 1 (some .int) ∈ gG := gG_of (List.mem_of_getElem? (i := 875) rfl) rfl
abbrev ws_M_room : List Cond := .code y_M_room b_M_room 1 (some .int) :: gG
abbrev b_M_axis : ByteArray := prog_10_method_11_code
def y_M_axis : MethodName := ⟨R_M, "axis", "(I)I"⟩
set_option maxRecDepth 20000 in
theorem k_M_axis : Cond.code y_M_axis b_M_axis 2 (some .int) ∈ gG := gG_of (List.mem_of_getElem? (i := 898) rfl) rfl
abbrev ws_M_axis : List Cond := .code y_M_axis b_M_axis 2 (some .int) :: gG
abbrev b_M_radius : ByteArray := prog_10_method_12_code
def y_M_radius : MethodName := ⟨R_M, "radius", "()I"⟩
set_option maxRecDepth 20000 in
theorem k_M_radius : Cond.code y_M_radius b_M_radius 2 (some .int) ∈ gG := gG_of (List.mem_of_getElem? (i := 902) rfl) rfl
abbrev ws_M_radius : List Cond := .code y_M_radius b_M_radius 2 (some .int) :: gG
abbrev b_M_roomOf : ByteArray := prog_10_method_13_code
def y_M_roomOf : MethodName := ⟨R_M, "roomOf", "(IIII)I"⟩
set_option maxRecDepth 20000 in
theorem k_M_roomOf : Cond.code y_M_roomOf b_M_roomOf 5 (some .int) ∈ gG := gG_of (List.mem_of_getElem? (i := 906) rfl) rfl
abbrev ws_M_roomOf : List Cond := .code y_M_roomOf b_M_roomOf 5 (some .int) :: gG
abbrev b_M_peel : ByteArray := prog_10_method_14_code
def y_M_peel : MethodName := ⟨R_M, "peel", "(II)I"⟩
set_option maxRecDepth 20000 in
theorem k_M_peel : Cond.code y_M_peel b_M_peel 3 (some .int) ∈ gG := gG_of (List.mem_of_getElem? (i := 910) rfl) rfl
abbrev ws_M_peel : List Cond := .code y_M_peel b_M_peel 3 (some .int) :: gG
abbrev b_M_beforeTurn : ByteArray := prog_10_method_15_code
def y_M_beforeTurn : MethodName := ⟨R_M, "beforeTurn", "(I)I"⟩
set_option maxRecDepth 20000 in
theorem k_M_beforeTurn : Cond.code y_M_beforeTurn b_M_beforeTurn 4 (some .int) ∈ gG := gG_of (List.mem_of_getElem? (i := 919) rfl) rfl
abbrev ws_M_beforeTurn : List Cond := .code y_M_beforeTurn b_M_beforeTurn 4 (some .int) :: gG
abbrev b_M_before : ByteArray := prog_10_method_16_code
def y_M_before : MethodName := ⟨R_M, "before", "(I)I"⟩
set_option maxRecDepth 20000 in
theorem k_M_before : Cond.code y_M_before b_M_before 2 (some .int) ∈ gG := gG_of (List.mem_of_getElem? (i := 915) rfl) rfl
abbrev ws_M_before : List Cond := .code y_M_before b_M_before 2 (some .int) :: gG
abbrev b_M_fault : ByteArray := prog_10_method_17_code
def y_M_fault : MethodName := ⟨R_M, "fault", "(III)I"⟩
set_option maxRecDepth 20000 in
theorem k_M_fault : Cond.code y_M_fault b_M_fault 4 (some .int) ∈ gG := gG_of (List.mem_of_getElem? (i := 923) rfl) rfl
abbrev ws_M_fault : List Cond := .code y_M_fault b_M_fault 4 (some .int) :: gG
abbrev b_M_placeOf : ByteArray := prog_10_method_18_code
def y_M_placeOf : MethodName := ⟨R_M, "placeOf", "(I)I"⟩
set_option maxRecDepth 20000 in
theorem k_M_placeOf : Cond.code y_M_placeOf b_M_placeOf 3 (some .int) ∈ gG := gG_of (List.mem_of_getElem? (i := 931) rfl) rfl
abbrev ws_M_placeOf : List Cond := .code y_M_placeOf b_M_placeOf 3 (some .int) :: gG
abbrev b_M_unrolled : ByteArray := prog_10_method_19_code
def y_M_unrolled : MethodName := ⟨R_M, "unrolled", "(I)I"⟩
set_option maxRecDepth 20000 in
theorem k_M_unrolled : Cond.code y_M_unrolled b_M_unrolled 2 (some .int) ∈ gG := gG_of (List.mem_of_getElem? (i := 927) rfl) rfl
abbrev ws_M_unrolled : List Cond := .code y_M_unrolled b_M_unrolled 2 (some .int) :: gG
abbrev b_M_leaf : ByteArray := prog_10_method_20_code
def y_M_leaf : MethodName := ⟨R_M, "leaf", "(II)I"⟩
set_option maxRecDepth 20000 in
theorem k_M_leaf : Cond.code y_M_leaf b_M_leaf 3 (some .int) ∈ gG := gG_of (List.mem_of_getElem? (i := 935) rfl) rfl
abbrev ws_M_leaf : List Cond := .code y_M_leaf b_M_leaf 3 (some .int) :: gG
abbrev b_M_bars : ByteArray := prog_10_method_21_code
def y_M_bars : MethodName := ⟨R_M, "bars", "(IIZ)Z"⟩
set_option maxRecDepth 20000 in
theorem k_M_bars : Cond.code y_M_bars b_M_bars 5 (some .boolean) ∈ gG := gG_of (List.mem_of_getElem? (i := 939) rfl) rfl
abbrev ws_M_bars : List Cond := .code y_M_bars b_M_bars 5 (some .boolean) :: gG
abbrev b_M_fits : ByteArray := prog_10_method_22_code
def y_M_fits : MethodName := ⟨R_M, "fits", "(II)Z"⟩
set_option maxRecDepth 20000 in
theorem k_M_fits : Cond.code y_M_fits b_M_fits 5 (some .boolean) ∈ gG := gG_of (List.mem_of_getElem? (i := 947) rfl) rfl
abbrev ws_M_fits : List Cond := .code y_M_fits b_M_fits 5 (some .boolean) :: gG
abbrev b_M_side : ByteArray := prog_10_method_23_code
def y_M_side : MethodName := ⟨R_M, "side", "(II)I"⟩
set_option maxRecDepth 20000 in
theorem k_M_side : Cond.code y_M_side b_M_side 6 (some .int) ∈ gG := gG_of (List.mem_of_getElem? (i := 951) rfl) rfl
abbrev ws_M_side : List Cond := .code y_M_side b_M_side 6 (some .int) :: gG
abbrev b_M_clip : ByteArray := prog_10_method_24_code
def y_M_clip : MethodName := ⟨R_M, "clip", "(I)I"⟩
set_option maxRecDepth 20000 in
theorem k_M_clip : Cond.code y_M_clip b_M_clip 4 (some .int) ∈ gG := gG_of (List.mem_of_getElem? (i := 943) rfl) rfl
abbrev ws_M_clip : List Cond := .code y_M_clip b_M_clip 4 (some .int) :: gG
abbrev b_M_at : ByteArray := prog_10_method_25_code
def y_M_at : MethodName := ⟨R_M, "at", "(II)I"⟩
set_option maxRecDepth 20000 in
theorem k_M_at : Cond.code y_M_at b_M_at 3 (some .int) ∈ gG := gG_of (List.mem_of_getElem? (i := 955) rfl) rfl
abbrev ws_M_at : List Cond := .code y_M_at b_M_at 3 (some .int) :: gG
abbrev b_M_clipped : ByteArray := prog_10_method_26_code
def y_M_clipped : MethodName := ⟨R_M, "clipped", "(I)I"⟩
set_option maxRecDepth 20000 in
theorem k_M_clipped : Cond.code y_M_clipped b_M_clipped 2 (some .int) ∈ gG := gG_of (List.mem_of_getElem? (i := 959) rfl) rfl
abbrev ws_M_clipped : List Cond := .code y_M_clipped b_M_clipped 2 (some .int) :: gG
abbrev b_M_shrink : ByteArray := prog_10_method_27_code
def y_M_shrink : MethodName := ⟨R_M, "shrink", "(III)I"⟩
set_option maxRecDepth 20000 in
theorem k_M_shrink : Cond.code y_M_shrink b_M_shrink 4 (some .int) ∈ gG := gG_of (List.mem_of_getElem? (i := 963) rfl) rfl
abbrev ws_M_shrink : List Cond := .code y_M_shrink b_M_shrink 4 (some .int) :: gG
abbrev b_M_row : ByteArray := prog_10_method_28_code
def y_M_row : MethodName := ⟨R_M, "row", "(II)Z"⟩
set_option maxRecDepth 20000 in
theorem k_M_row : Cond.code y_M_row b_M_row 3 (some .boolean) ∈ gG := gG_of (List.mem_of_getElem? (i := 967) rfl) rfl
abbrev ws_M_row : List Cond := .code y_M_row b_M_row 3 (some .boolean) :: gG
abbrev b_M_knife : ByteArray := prog_10_method_29_code
def y_M_knife : MethodName := ⟨R_M, "knife", "(I)I"⟩
set_option maxRecDepth 20000 in
theorem k_M_knife : Cond.code y_M_knife b_M_knife 4 (some .int) ∈ gG := gG_of (List.mem_of_getElem? (i := 971) rfl) rfl
abbrev ws_M_knife : List Cond := .code y_M_knife b_M_knife 4 (some .int) :: gG
abbrev b_W_at0 : ByteArray := method_2_code
def y_W_at0 : MethodName := ⟨R_W, "cell", "([II)I"⟩
set_option maxRecDepth 20000 in
theorem k_W_at0 : Cond.code y_W_at0 b_W_at0 2 (some .int) ∈ gG := gG_of (List.mem_of_getElem? (i := 341) rfl) rfl
abbrev ws_W_at0 : List Cond := .code y_W_at0 b_W_at0 2 (some .int) :: gG
abbrev b_W_cell : ByteArray := method_3_code
def y_W_cell : MethodName := ⟨R_W, "cell", "(LPeelRibbons;IIIZ[J)I"⟩
abbrev b_W_axis : ByteArray := method_4_code
def y_W_axis : MethodName := ⟨R_W, "axis", "(LPeelRibbons;I[J)I"⟩
abbrev b_W_roomOf : ByteArray := method_5_code
def y_W_roomOf : MethodName := ⟨R_W, "roomOf", "(LPeelRibbons;IIII[J)I"⟩
abbrev b_W_peel : ByteArray := method_6_code
def y_W_peel : MethodName := ⟨R_W, "peel", "(LPeelRibbons;II[J)I"⟩
abbrev b_W_before : ByteArray := method_7_code
def y_W_before : MethodName := ⟨R_W, "before", "(LPeelRibbons;I[J)I"⟩
abbrev b_W_fault : ByteArray := method_8_code
def y_W_fault : MethodName := ⟨R_W, "fault", "(LPeelRibbons;III[J)I"⟩
abbrev b_W_unrolled : ByteArray := method_9_code
def y_W_unrolled : MethodName := ⟨R_W, "unrolled", "(LPeelRibbons;I[J)I"⟩
abbrev b_W_leaf : ByteArray := method_10_code
def y_W_leaf : MethodName := ⟨R_W, "leaf", "(LPeelRibbons;II[J)I"⟩
abbrev b_W_bars : ByteArray := method_11_code
def y_W_bars : MethodName := ⟨R_W, "bars", "(LPeelRibbons;IIZ[J)I"⟩
abbrev b_W_clip : ByteArray := method_12_code
def y_W_clip : MethodName := ⟨R_W, "clip", "(LPeelRibbons;I[J)I"⟩
abbrev b_W_at : ByteArray := method_13_code
def y_W_at : MethodName := ⟨R_W, "at", "(LPeelRibbons;II[J)I"⟩
abbrev b_W_clipped : ByteArray := method_14_code
def y_W_clipped : MethodName := ⟨R_W, "clipped", "(LPeelRibbons;I[J)I"⟩
abbrev b_W_shrink : ByteArray := method_15_code
def y_W_shrink : MethodName := ⟨R_W, "shrink", "(LPeelRibbons;III[J)I"⟩
abbrev b_W_row : ByteArray := method_16_code
def y_W_row : MethodName := ⟨R_W, "row", "(LPeelRibbons;II[J)I"⟩
abbrev b_W_knife : ByteArray := method_17_code
def y_W_knife : MethodName := ⟨R_W, "knife", "(LPeelRibbons;I[J)I"⟩
-- no code row: ('PeelRibbonsLaw', 'law', '([I)Z')
end
section
/-! NUMBERS: every int and long of a walk is the image of an integer; sums, differences and products need no bound. -/
def iI (z : Int) : Int32 := Int32.ofInt z
def lI (z : Int) : Int64 := Int64.ofInt z
abbrev kM : Type := Nat → Nat → Int
def iR (z : Int) : Prop := -2147483648 ≤ z ∧ z < 2147483648
def lR (z : Int) : Prop := -9223372036854775808 ≤ z ∧ z < 9223372036854775808
theorem iI_toInt {z : Int} (h : iR z) : (iI z).toInt = z := Int32.toInt_ofInt_of_le (by have := h.1; omega) (by have := h.2; omega)
theorem lI_toInt {z : Int} (h : lR z) : (lI z).toInt = z := Int64.toInt_ofInt_of_le (by have := h.1; omega) (by have := h.2; omega)
theorem iI_eta (x : Int32) : x = iI x.toInt := (Int32.ofInt_toInt x).symm
theorem iR_toInt (x : Int32) : iR x.toInt := ⟨by have := x.le_toInt; omega, by have := x.toInt_lt; omega⟩
theorem iI_add (a b : Int) : iI a + iI b = iI (a + b) := (Int32.ofInt_add a b).symm
theorem iI_sub (a b : Int) : iI a - iI b = iI (a - b) := (Int32.ofInt_sub a b).symm
theorem iI_mul (a b : Int) : iI a * iI b = iI (a * b) := (Int32.ofInt_mul a b).symm
theorem lI_add (a b : Int) : lI a + lI b = lI (a + b) := (Int64.ofInt_add a b).symm
theorem lI_sub (a b : Int) : lI a - lI b = lI (a - b) := (Int64.ofInt_sub a b).symm
theorem lI_mul (a b : Int) : lI a * lI b = lI (a * b) := (Int64.ofInt_mul a b).symm
theorem iI_lt {a b : Int} (ha : iR a) (hb : iR b) : iI a < iI b ↔ a < b := by rw [Int32.lt_iff_toInt_lt, iI_toInt ha, iI_toInt hb]
theorem iI_le {a b : Int} (ha : iR a) (hb : iR b) : iI a ≤ iI b ↔ a ≤ b := by rw [Int32.le_iff_toInt_le, iI_toInt ha, iI_toInt hb]
theorem iI_eq {a b : Int} (ha : iR a) (hb : iR b) : iI a = iI b ↔ a = b := by rw [← Int32.toInt_inj, iI_toInt ha, iI_toInt hb]
theorem lI_lt {a b : Int} (ha : lR a) (hb : lR b) : lI a < lI b ↔ a < b := by rw [Int64.lt_iff_toInt_lt, lI_toInt ha, lI_toInt hb]
theorem lI_eq {a b : Int} (ha : lR a) (hb : lR b) : lI a = lI b ↔ a = b := by rw [← Int64.toInt_inj, lI_toInt ha, lI_toInt hb]
theorem iI_0 : iI 0 = 0 := by decide
theorem iR_0 : iR 0 := ⟨by decide, by decide⟩
theorem iI_lt0 {a : Int} (ha : iR a) : iI a < 0 ↔ a < 0 := by rw [← iI_0]; exact iI_lt ha iR_0
theorem iI_le0 {a : Int} (ha : iR a) : iI a ≤ 0 ↔ a ≤ 0 := by rw [← iI_0]; exact iI_le ha iR_0
theorem iI_0lt {a : Int} (ha : iR a) : 0 < iI a ↔ 0 < a := by rw [← iI_0]; exact iI_lt iR_0 ha
theorem iI_0le {a : Int} (ha : iR a) : 0 ≤ iI a ↔ 0 ≤ a := by rw [← iI_0]; exact iI_le iR_0 ha
theorem iI_eq0 {a : Int} (ha : iR a) : iI a = 0 ↔ a = 0 := by rw [← iI_0]; exact iI_eq ha iR_0
theorem iI_clamp {a : Int} (ha : iR a) : (iI a).toNatClampNeg = a.toNat := Int32.toNatClampNeg_ofInt_of_le (by have := ha.1; omega) (by have := ha.2; omega)
theorem iI_in {a : Int} {n : Nat} (ha : iR a) (h0 : 0 ≤ a) (h1 : a < (n : Int)) : vp_in (iI a) n := vp_in_iff.mpr (by rw [iI_toInt ha]; exact ⟨h0, h1⟩)
theorem iI_div {a b : Int} (ha : iR a) (hb : iR b) (h0 : 0 ≤ a) (h1 : 0 < b) : iI a / iI b = iI (a / b) := by
  have hne : iI b ≠ -1 := by
    intro h
    have h2 := congrArg Int32.toInt h
    rw [iI_toInt hb] at h2
    have h3 : (-1 : Int32).toInt = -1 := by decide
    rw [h3] at h2
    omega
  have hle : a / b ≤ a := Int.ediv_le_self b h0
  have hge : 0 ≤ a / b := Int.ediv_nonneg h0 (Int.le_of_lt h1)
  have hr : iR (a / b) := ⟨by omega, by have := ha.2; omega⟩
  apply Int32.toInt_inj.mp
  rw [Int32.toInt_div_of_ne_right _ _ hne, iI_toInt ha, iI_toInt hb, iI_toInt hr, Int.tdiv_eq_ediv_of_nonneg h0]
theorem iI_long {a : Int} (ha : iR a) : (iI a).toInt64 = lI a := by
  apply Int64.toInt_inj.mp
  rw [Int32.toInt_toInt64, iI_toInt ha, lI_toInt ⟨by have := ha.1; omega, by have := ha.2; omega⟩]
def kAnd (a b : Int) : Int := (iI a &&& iI b).toInt
def kOr (a b : Int) : Int := (iI a ||| iI b).toInt
def kXor (a b : Int) : Int := (iI a ^^^ iI b).toInt
def kShl (a b : Int) : Int := (iI a <<< (iI b &&& 31)).toInt
def kShr (a b : Int) : Int := (iI a >>> (iI b &&& 31)).toInt
theorem upd_iI (f : Nat → Int) (i : Nat) (z : Int) : upd (fun j => iI (f j)) i (iI z) = fun j => iI (va_up f i z j) := by
  funext j
  by_cases h : j = i
  · simp [upd, va_up, h]
  · simp [upd, va_up, h]
theorem updL_lI (f : Nat → Int) (i : Nat) (z : Int) : vp_updL (fun j => lI (f j)) i (lI z) = fun j => lI (va_up f i z j) := by
  funext j
  by_cases h : j = i
  · simp [vp_updL, va_up, h]
  · simp [vp_updL, va_up, h]
theorem narZ {z : Int} (h : z = 0 ∨ z = 1) : narrow .boolean (.int (iI z)) = .int (iI z) := by rcases h with rfl | rfl <;> decide +kernel
theorem vnarZ {z : Int} (h : z = 0 ∨ z = 1) : vp_nar .boolean (iI z) = iI z := by rcases h with rfl | rfl <;> decide +kernel
theorem fitZ {z : Int} (h : z = 0 ∨ z = 1) : fits .boolean (.int (iI z)) = true := by rcases h with rfl | rfl <;> decide +kernel
section KR
variable {p : Program} {l : Launch} {e : Env} {R : Room} {s : State} {m : MethodId} {args : Array Value} {below : List Frame} {meth : Method} {c : Code} {H : Heap} {locs : List Loc} {cells slots : Nat} {Q : State → Prop}
variable {cc : ByteArray} {pc : Nat} {ls : Array Slot} {rest : List Value}
/-- the top number gets a name -/
theorem ki_nm {z : Int} (k : ∀ v : Int, v = z → W p l e R s m args below meth c H locs cells slots Q (F0 m pc ls (.int (iI v) :: rest))) : W p l e R s m args below meth c H locs cells slots Q (F0 m pc ls (.int (iI z) :: rest)) := k z rfl
theorem kl_nm {z : Int} (k : ∀ v : Int, v = z → W p l e R s m args below meth c H locs cells slots Q (F0 m pc ls (.long (lI v) :: rest))) : W p l e R s m args below meth c H locs cells slots Q (F0 m pc ls (.long (lI z) :: rest)) := k z rfl
theorem ki_add (hx : p.tables.exec = Jvm.exec) (hb : c.code = cc) {a b : Int} (hd : decode cc pc = .ok (.iadd, 1)) (k : W p l e R s m args below meth c H locs cells slots Q (F0 m (pc + 1) ls (.int (iI (a + b)) :: rest))) : W p l e R s m args below meth c H locs cells slots Q (F0 m pc ls (.int (iI b) :: .int (iI a) :: rest)) := lv_iadd hx hb hd (by rw [iI_add]; exact k)
theorem ki_sub (hx : p.tables.exec = Jvm.exec) (hb : c.code = cc) {a b : Int} (hd : decode cc pc = .ok (.isub, 1)) (k : W p l e R s m args below meth c H locs cells slots Q (F0 m (pc + 1) ls (.int (iI (a - b)) :: rest))) : W p l e R s m args below meth c H locs cells slots Q (F0 m pc ls (.int (iI b) :: .int (iI a) :: rest)) := lv_isub hx hb hd (by rw [iI_sub]; exact k)
theorem ki_mul (hx : p.tables.exec = Jvm.exec) (hb : c.code = cc) {a b : Int} (hd : decode cc pc = .ok (.imul, 1)) (k : W p l e R s m args below meth c H locs cells slots Q (F0 m (pc + 1) ls (.int (iI (a * b)) :: rest))) : W p l e R s m args below meth c H locs cells slots Q (F0 m pc ls (.int (iI b) :: .int (iI a) :: rest)) := lv_imul hx hb hd (by rw [iI_mul]; exact k)
theorem ki_and (hx : p.tables.exec = Jvm.exec) (hb : c.code = cc) {a b : Int} (hd : decode cc pc = .ok (.iand, 1)) (k : W p l e R s m args below meth c H locs cells slots Q (F0 m (pc + 1) ls (.int (iI (kAnd a b)) :: rest))) : W p l e R s m args below meth c H locs cells slots Q (F0 m pc ls (.int (iI b) :: .int (iI a) :: rest)) := lv_iand hx hb hd (by rw [iI_eta (iI a &&& iI b)]; exact k)
theorem ki_or (hx : p.tables.exec = Jvm.exec) (hb : c.code = cc) {a b : Int} (hd : decode cc pc = .ok (.ior, 1)) (k : W p l e R s m args below meth c H locs cells slots Q (F0 m (pc + 1) ls (.int (iI (kOr a b)) :: rest))) : W p l e R s m args below meth c H locs cells slots Q (F0 m pc ls (.int (iI b) :: .int (iI a) :: rest)) := lv_ior hx hb hd (by rw [iI_eta (iI a ||| iI b)]; exact k)
theorem ki_xor (hx : p.tables.exec = Jvm.exec) (hb : c.code = cc) {a b : Int} (hd : decode cc pc = .ok (.ixor, 1)) (k : W p l e R s m args below meth c H locs cells slots Q (F0 m (pc + 1) ls (.int (iI (kXor a b)) :: rest))) : W p l e R s m args below meth c H locs cells slots Q (F0 m pc ls (.int (iI b) :: .int (iI a) :: rest)) := lv_ixor hx hb hd (by rw [iI_eta (iI a ^^^ iI b)]; exact k)
theorem ki_shl (hx : p.tables.exec = Jvm.exec) (hb : c.code = cc) {a b : Int} (hd : decode cc pc = .ok (.ishl, 1)) (k : W p l e R s m args below meth c H locs cells slots Q (F0 m (pc + 1) ls (.int (iI (kShl a b)) :: rest))) : W p l e R s m args below meth c H locs cells slots Q (F0 m pc ls (.int (iI b) :: .int (iI a) :: rest)) := lv_ishl hx hb hd (by rw [iI_eta (iI a <<< (iI b &&& 31))]; exact k)
theorem ki_shr (hx : p.tables.exec = Jvm.exec) (hb : c.code = cc) {a b : Int} (hd : decode cc pc = .ok (.ishr, 1)) (k : W p l e R s m args below meth c H locs cells slots Q (F0 m (pc + 1) ls (.int (iI (kShr a b)) :: rest))) : W p l e R s m args below meth c H locs cells slots Q (F0 m pc ls (.int (iI b) :: .int (iI a) :: rest)) := lv_ishr hx hb hd (by rw [iI_eta (iI a >>> (iI b &&& 31))]; exact k)
theorem ki_div (hx : p.tables.exec = Jvm.exec) (hb : c.code = cc) {a b : Int} (hd : decode cc pc = .ok (.idiv, 1)) (q : iR a ∧ iR b ∧ 0 ≤ a ∧ 0 < b) (k : W p l e R s m args below meth c H locs cells slots Q (F0 m (pc + 1) ls (.int (iI (a / b)) :: rest))) : W p l e R s m args below meth c H locs cells slots Q (F0 m pc ls (.int (iI b) :: .int (iI a) :: rest)) := lv_idiv hx hb hd (by rw [iI_eq0 q.2.1]; have := q.2.2.2; omega) (by rw [iI_div q.1 q.2.1 q.2.2.1 q.2.2.2]; exact k)
theorem kl_add (hx : p.tables.exec = Jvm.exec) (hb : c.code = cc) {a b : Int} (hd : decode cc pc = .ok (.ladd, 1)) (k : W p l e R s m args below meth c H locs cells slots Q (F0 m (pc + 1) ls (.long (lI (a + b)) :: rest))) : W p l e R s m args below meth c H locs cells slots Q (F0 m pc ls (.long (lI b) :: .long (lI a) :: rest)) := lv_ladd hx hb hd (by rw [lI_add]; exact k)
theorem kl_sub (hx : p.tables.exec = Jvm.exec) (hb : c.code = cc) {a b : Int} (hd : decode cc pc = .ok (.lsub, 1)) (k : W p l e R s m args below meth c H locs cells slots Q (F0 m (pc + 1) ls (.long (lI (a - b)) :: rest))) : W p l e R s m args below meth c H locs cells slots Q (F0 m pc ls (.long (lI b) :: .long (lI a) :: rest)) := lv_lsub hx hb hd (by rw [lI_sub]; exact k)
theorem kl_mul (hx : p.tables.exec = Jvm.exec) (hb : c.code = cc) {a b : Int} (hd : decode cc pc = .ok (.lmul, 1)) (k : W p l e R s m args below meth c H locs cells slots Q (F0 m (pc + 1) ls (.long (lI (a * b)) :: rest))) : W p l e R s m args below meth c H locs cells slots Q (F0 m pc ls (.long (lI b) :: .long (lI a) :: rest)) := lv_lmul hx hb hd (by rw [lI_mul]; exact k)
theorem ki_i2l (hx : p.tables.exec = Jvm.exec) (hb : c.code = cc) {a : Int} (hd : decode cc pc = .ok (.i2l, 1)) (q : iR a) (k : W p l e R s m args below meth c H locs cells slots Q (F0 m (pc + 1) ls (.long (lI a) :: rest))) : W p l e R s m args below meth c H locs cells slots Q (F0 m pc ls (.int (iI a) :: rest)) := lv_i2l hx hb hd (iI_long q) k
theorem ki_icmp_eq (hx : p.tables.exec = Jvm.exec) (hb : c.code = cc) {a b : Int} {off : Int} {tgt : Nat} (hd : decode cc pc = .ok (.if_icmp .eq off, 3)) (ht : (pc : Int) + off = (tgt : Int)) (ra : iR a) (rb : iR b) (kt : a = b → W p l e R s m args below meth c H locs cells slots Q (F0 m tgt ls rest)) (kf : ¬ a = b → W p l e R s m args below meth c H locs cells slots Q (F0 m (pc + 3) ls rest)) : W p l e R s m args below meth c H locs cells slots Q (F0 m pc ls (.int (iI b) :: .int (iI a) :: rest)) := lv_icmp_eq hx hb hd ht (fun h => kt ((iI_eq ra rb).mp h)) (fun h => kf (fun q => h ((iI_eq ra rb).mpr q)))
theorem ki_icmp_ne (hx : p.tables.exec = Jvm.exec) (hb : c.code = cc) {a b : Int} {off : Int} {tgt : Nat} (hd : decode cc pc = .ok (.if_icmp .ne off, 3)) (ht : (pc : Int) + off = (tgt : Int)) (ra : iR a) (rb : iR b) (kt : ¬ a = b → W p l e R s m args below meth c H locs cells slots Q (F0 m tgt ls rest)) (kf : a = b → W p l e R s m args below meth c H locs cells slots Q (F0 m (pc + 3) ls rest)) : W p l e R s m args below meth c H locs cells slots Q (F0 m pc ls (.int (iI b) :: .int (iI a) :: rest)) := lv_icmp_ne hx hb hd ht (fun h => kt (fun q => h ((iI_eq ra rb).mpr q))) (fun h => kf ((iI_eq ra rb).mp h))
theorem ki_icmp_lt (hx : p.tables.exec = Jvm.exec) (hb : c.code = cc) {a b : Int} {off : Int} {tgt : Nat} (hd : decode cc pc = .ok (.if_icmp .lt off, 3)) (ht : (pc : Int) + off = (tgt : Int)) (ra : iR a) (rb : iR b) (kt : a < b → W p l e R s m args below meth c H locs cells slots Q (F0 m tgt ls rest)) (kf : ¬ a < b → W p l e R s m args below meth c H locs cells slots Q (F0 m (pc + 3) ls rest)) : W p l e R s m args below meth c H locs cells slots Q (F0 m pc ls (.int (iI b) :: .int (iI a) :: rest)) := lv_icmp_lt hx hb hd ht (fun h => kt ((iI_lt ra rb).mp h)) (fun h => kf (fun q => h ((iI_lt ra rb).mpr q)))
theorem ki_icmp_ge (hx : p.tables.exec = Jvm.exec) (hb : c.code = cc) {a b : Int} {off : Int} {tgt : Nat} (hd : decode cc pc = .ok (.if_icmp .ge off, 3)) (ht : (pc : Int) + off = (tgt : Int)) (ra : iR a) (rb : iR b) (kt : b ≤ a → W p l e R s m args below meth c H locs cells slots Q (F0 m tgt ls rest)) (kf : ¬ b ≤ a → W p l e R s m args below meth c H locs cells slots Q (F0 m (pc + 3) ls rest)) : W p l e R s m args below meth c H locs cells slots Q (F0 m pc ls (.int (iI b) :: .int (iI a) :: rest)) := lv_icmp_ge hx hb hd ht (fun h => kt ((iI_le rb ra).mp h)) (fun h => kf (fun q => h ((iI_le rb ra).mpr q)))
theorem ki_icmp_gt (hx : p.tables.exec = Jvm.exec) (hb : c.code = cc) {a b : Int} {off : Int} {tgt : Nat} (hd : decode cc pc = .ok (.if_icmp .gt off, 3)) (ht : (pc : Int) + off = (tgt : Int)) (ra : iR a) (rb : iR b) (kt : b < a → W p l e R s m args below meth c H locs cells slots Q (F0 m tgt ls rest)) (kf : ¬ b < a → W p l e R s m args below meth c H locs cells slots Q (F0 m (pc + 3) ls rest)) : W p l e R s m args below meth c H locs cells slots Q (F0 m pc ls (.int (iI b) :: .int (iI a) :: rest)) := lv_icmp_gt hx hb hd ht (fun h => kt ((iI_lt rb ra).mp h)) (fun h => kf (fun q => h ((iI_lt rb ra).mpr q)))
theorem ki_icmp_le (hx : p.tables.exec = Jvm.exec) (hb : c.code = cc) {a b : Int} {off : Int} {tgt : Nat} (hd : decode cc pc = .ok (.if_icmp .le off, 3)) (ht : (pc : Int) + off = (tgt : Int)) (ra : iR a) (rb : iR b) (kt : a ≤ b → W p l e R s m args below meth c H locs cells slots Q (F0 m tgt ls rest)) (kf : ¬ a ≤ b → W p l e R s m args below meth c H locs cells slots Q (F0 m (pc + 3) ls rest)) : W p l e R s m args below meth c H locs cells slots Q (F0 m pc ls (.int (iI b) :: .int (iI a) :: rest)) := lv_icmp_le hx hb hd ht (fun h => kt ((iI_le ra rb).mp h)) (fun h => kf (fun q => h ((iI_le ra rb).mpr q)))
theorem ki_if_eq (hx : p.tables.exec = Jvm.exec) (hb : c.code = cc) {a : Int} {off : Int} {tgt : Nat} (hd : decode cc pc = .ok (.ifCond .eq off, 3)) (ht : (pc : Int) + off = (tgt : Int)) (ra : iR a) (kt : a = 0 → W p l e R s m args below meth c H locs cells slots Q (F0 m tgt ls rest)) (kf : ¬ a = 0 → W p l e R s m args below meth c H locs cells slots Q (F0 m (pc + 3) ls rest)) : W p l e R s m args below meth c H locs cells slots Q (F0 m pc ls (.int (iI a) :: rest)) := lv_if_eq hx hb hd ht (fun h => kt ((iI_eq0 ra).mp h)) (fun h => kf (fun q => h ((iI_eq0 ra).mpr q)))
theorem ki_if_ne (hx : p.tables.exec = Jvm.exec) (hb : c.code = cc) {a : Int} {off : Int} {tgt : Nat} (hd : decode cc pc = .ok (.ifCond .ne off, 3)) (ht : (pc : Int) + off = (tgt : Int)) (ra : iR a) (kt : ¬ a = 0 → W p l e R s m args below meth c H locs cells slots Q (F0 m tgt ls rest)) (kf : a = 0 → W p l e R s m args below meth c H locs cells slots Q (F0 m (pc + 3) ls rest)) : W p l e R s m args below meth c H locs cells slots Q (F0 m pc ls (.int (iI a) :: rest)) := lv_if_ne hx hb hd ht (fun h => kt (fun q => h ((iI_eq0 ra).mpr q))) (fun h => kf ((iI_eq0 ra).mp h))
theorem ki_if_lt (hx : p.tables.exec = Jvm.exec) (hb : c.code = cc) {a : Int} {off : Int} {tgt : Nat} (hd : decode cc pc = .ok (.ifCond .lt off, 3)) (ht : (pc : Int) + off = (tgt : Int)) (ra : iR a) (kt : a < 0 → W p l e R s m args below meth c H locs cells slots Q (F0 m tgt ls rest)) (kf : ¬ a < 0 → W p l e R s m args below meth c H locs cells slots Q (F0 m (pc + 3) ls rest)) : W p l e R s m args below meth c H locs cells slots Q (F0 m pc ls (.int (iI a) :: rest)) := lv_if_lt hx hb hd ht (fun h => kt ((iI_lt0 ra).mp h)) (fun h => kf (fun q => h ((iI_lt0 ra).mpr q)))
theorem ki_if_ge (hx : p.tables.exec = Jvm.exec) (hb : c.code = cc) {a : Int} {off : Int} {tgt : Nat} (hd : decode cc pc = .ok (.ifCond .ge off, 3)) (ht : (pc : Int) + off = (tgt : Int)) (ra : iR a) (kt : 0 ≤ a → W p l e R s m args below meth c H locs cells slots Q (F0 m tgt ls rest)) (kf : ¬ 0 ≤ a → W p l e R s m args below meth c H locs cells slots Q (F0 m (pc + 3) ls rest)) : W p l e R s m args below meth c H locs cells slots Q (F0 m pc ls (.int (iI a) :: rest)) := lv_if_ge hx hb hd ht (fun h => kt ((iI_0le ra).mp h)) (fun h => kf (fun q => h ((iI_0le ra).mpr q)))
theorem ki_if_gt (hx : p.tables.exec = Jvm.exec) (hb : c.code = cc) {a : Int} {off : Int} {tgt : Nat} (hd : decode cc pc = .ok (.ifCond .gt off, 3)) (ht : (pc : Int) + off = (tgt : Int)) (ra : iR a) (kt : 0 < a → W p l e R s m args below meth c H locs cells slots Q (F0 m tgt ls rest)) (kf : ¬ 0 < a → W p l e R s m args below meth c H locs cells slots Q (F0 m (pc + 3) ls rest)) : W p l e R s m args below meth c H locs cells slots Q (F0 m pc ls (.int (iI a) :: rest)) := lv_if_gt hx hb hd ht (fun h => kt ((iI_0lt ra).mp h)) (fun h => kf (fun q => h ((iI_0lt ra).mpr q)))
theorem ki_if_le (hx : p.tables.exec = Jvm.exec) (hb : c.code = cc) {a : Int} {off : Int} {tgt : Nat} (hd : decode cc pc = .ok (.ifCond .le off, 3)) (ht : (pc : Int) + off = (tgt : Int)) (ra : iR a) (kt : a ≤ 0 → W p l e R s m args below meth c H locs cells slots Q (F0 m tgt ls rest)) (kf : ¬ a ≤ 0 → W p l e R s m args below meth c H locs cells slots Q (F0 m (pc + 3) ls rest)) : W p l e R s m args below meth c H locs cells slots Q (F0 m pc ls (.int (iI a) :: rest)) := lv_if_le hx hb hd ht (fun h => kt ((iI_le0 ra).mp h)) (fun h => kf (fun q => h ((iI_le0 ra).mpr q)))
end KR
end
section
/-! WORLDS: one list of cells, its numbers a function of cell and place; contracts over it. -/
def kW (D : va_G) (cl : List vw_C) (A : Nat → Prop) (H0 : Heap) (ws : va_W) (H : Heap) (locs : List Loc) : Prop := va_P D cl ws H ∧ va_D A ws ∧ va_S A H0 H locs
theorem kW_at {w1 w2 : va_W} (e : w1.map Prod.fst = w2.map Prod.fst) {k : Nat} {q : Nat × va_E} (h : w2[k]? = some q) : ∃ p : Nat × va_E, w1[k]? = some p ∧ p.1 = q.1 := by
  have h1 : (w1.map Prod.fst)[k]? = some q.1 := by rw [e, List.getElem?_map, h]; rfl
  rw [List.getElem?_map] at h1
  cases h2 : w1[k]? with
  | none => rw [h2] at h1; cases h1
  | some p => rw [h2] at h1; exact ⟨p, rfl, Option.some.inj h1⟩
theorem kW_D {A : Nat → Prop} {w1 w2 : va_W} (h : va_D A w1) (e : w1.map Prod.fst = w2.map Prod.fst) : va_D A w2 :=
  ⟨fun i j p q hi hj hpq => by
    obtain ⟨p1, a1, a2⟩ := kW_at e hi
    obtain ⟨q1, b1, b2⟩ := kW_at e hj
    exact h.1 i j p1 q1 a1 b1 (a2.trans (hpq.trans b2.symm)), fun k q hk => by
    obtain ⟨p1, a1, a2⟩ := kW_at e hk
    rw [← a2]
    exact h.2 k p1 a1⟩
/-- the nest mates' links that a method and its callees use -/
def kNw (ns : List (String × Nat × MethodName × String)) (U : State) : Prop := ∀ q ∈ ns, va_Nw (.methodLinkNest q.1 q.2.1 q.2.2.1 q.2.2.2) U
theorem kNw.same {ns : List (String × Nat × MethodName × String)} {u U : State} (h : u.vm = U.vm) (hZ : kNw ns u) : kNw ns U := fun q hq => va_Nw.same rfl h (hZ q hq)
theorem kNw.warm {ns : List (String × Nat × MethodName × String)} {s U : State} (hW : s.WarmedH U.vm) (hZ : kNw ns s) : kNw ns U := fun q hq => va_Nw.warmM hW (hZ q hq)
def kPc (D : va_G) (cl : List vw_C) (tys : List (ClassId × FieldType)) (ws : va_W) (ns : List (String × Nat × MethodName × String)) (sz : Nat) (av : List Value) : Array Value → State → Prop := va_Pc av (fun U => U.heap.size = sz ∧ va_P D cl ws U.heap ∧ va_K D cl tys U ∧ va_D (fun _ => True) ws ∧ kNw ns U)
theorem kPc.blind {D : va_G} {cl : List vw_C} {tys : List (ClassId × FieldType)} {ws : va_W} {ns : List (String × Nat × MethodName × String)} {sz : Nat} {av : List Value} : FrameBlind (kPc D cl tys ws ns sz av) := fun a U g mk q => by
  obtain ⟨q0, q1, qP, qK, qD, qN⟩ := q
  exact ⟨q0, q1, qP, va_K.moved (u := U) (U := U.calling g mk a) (Vm.Alike.refl U.vm) qK, qD, kNw.same (u := U) (U := U.calling g mk a) rfl qN⟩
def kQi (D : va_G) (cl : List vw_C) (w : kM → va_W) (P : Int → kM → Prop) (A : Nat → Prop) : Array Value → State → Outcome → State → Prop := va_Qi (S := Int × kM) (fun r u => r = iI u.1 ∧ P u.1 u.2) (fun u t => va_P D cl (w u.2) t.heap) A
def kQv (D : va_G) (cl : List vw_C) (w : kM → va_W) (P : kM → Prop) (A : Nat → Prop) : Array Value → State → Outcome → State → Prop := va_Qv (S := kM) P (fun u t => va_P D cl (w u) t.heap) A
/-- a method of a world that makes nothing: from the numbers σ it comes back with an int and numbers for which P holds -/
def kMi (l : Launch) (y : MethodName) (wsy : List Cond) (rm : Room) (D : va_G) (cl : List vw_C) (tys : List (ClassId × FieldType)) (w : kM → va_W) (ns : List (String × Nat × MethodName × String)) (σ : kM) (av : List Value) (P : Int → kM → Prop) : Prop := ∀ sz : Nat, Met l y wsy rm (kPc D cl tys (w σ) ns sz av) (kQi D cl w P (va_A (w σ) sz)) 0 0 (va_A (w σ) sz)
def kMv (l : Launch) (y : MethodName) (wsy : List Cond) (rm : Room) (D : va_G) (cl : List vw_C) (tys : List (ClassId × FieldType)) (w : kM → va_W) (ns : List (String × Nat × MethodName × String)) (σ : kM) (av : List Value) (P : kM → Prop) : Prop := ∀ sz : Nat, Met l y wsy rm (kPc D cl tys (w σ) ns sz av) (kQv D cl w P (va_A (w σ) sz)) 0 0 (va_A (w σ) sz)
theorem k_enter {l : Launch} {y : MethodName} {wsy ws' : List Cond} {rm : Room} {cc : ByteArray} {maxL : Nat} {ret : Option FieldType} {D : va_G} {cl : List vw_C} {tys : List (ClassId × FieldType)} {w0 : va_W} {ns : List (String × Nat × MethodName × String)} {sz : Nat} {av : List Value} {Qc : Array Value → State → Outcome → State → Prop} (hy : plainName y.cls = true) (hw : wsy = Cond.code y cc maxL ret :: ws') (hlen : (lg_sl av).length ≤ maxL)
    (body : ∀ (p : Program) (e : Env) (s : State) (m : MethodId) (below : List Frame) (meth : Method) (c : Code) (ls : Array Slot), CallFix p m c cc maxL s av.toArray wsy y.cls → meth.sig.returnType = ret → meth.locks = false → s.heap.size = sz → (∀ q, s.heap.size ≤ q → va_A w0 sz q) → kW D cl (va_A w0 sz) s.heap w0 s.heap [] → va_K D cl tys s → kNw ns s → lv_has ls maxL (lv_args 0 av) →
      W p l e (headSpec wsy rm).room s m av.toArray below meth c s.heap [] 0 0 (MQ below Qc av.toArray s 0 0 (va_A w0 sz)) (F0 m 0 ls [])) : Met l y wsy rm (kPc D cl tys w0 ns sz av) Qc 0 0 (va_A w0 sz) := by
  refine Met.ofW (cc := cc) (maxL := maxL) (ret := ret) hy hw ?_
  intro p e s m args below meth c s₁ B hml hv
  obtain ⟨rfl, hsz, hP, hK, hD0, hn⟩ := hv
  have hl := lv_entry av (n := maxL) hlen
  rw [lg_entry_eq]
  generalize (lg_sl av ++ List.replicate (maxL - (lg_sl av).length) Slot.unset).toArray = ls at hl ⊢
  exact body p e s m below meth c ls ⟨B.exec, B.bytes, hml, findClass_of_methodNamed B.named, atoms_spec (ws := wsy) B.pre⟩ B.returns B.notSynchronized hsz (fun q h => Or.inr (by rw [← hsz]; exact h)) ⟨hP, hD0.self, va_S.rf⟩ hK hn hl
/-- a method that changes nothing -/
def kPp (D : va_G) (cl : List vw_C) (tys : List (ClassId × FieldType)) (ws : va_W) (ns : List (String × Nat × MethodName × String)) (av : List Value) : Array Value → State → Prop := va_Pc av (fun U => va_P D cl ws U.heap ∧ va_K D cl tys U ∧ kNw ns U)
theorem kPp.blind {D : va_G} {cl : List vw_C} {tys : List (ClassId × FieldType)} {ws : va_W} {ns : List (String × Nat × MethodName × String)} {av : List Value} : FrameBlind (kPp D cl tys ws ns av) := fun a U g mk q => by
  obtain ⟨q0, qP, qK, qN⟩ := q
  exact ⟨q0, qP, va_K.moved (u := U) (U := U.calling g mk a) (Vm.Alike.refl U.vm) qK, kNw.same (u := U) (U := U.calling g mk a) rfl qN⟩
def kQp (P : Int → Prop) : Array Value → State → Outcome → State → Prop := fun _ st oc t => ∃ r : Int, oc = .returned (some (.int (iI r))) ∧ P r ∧ t.heap = st.heap
def kMp (l : Launch) (y : MethodName) (wsy : List Cond) (rm : Room) (D : va_G) (cl : List vw_C) (tys : List (ClassId × FieldType)) (w : kM → va_W) (ns : List (String × Nat × MethodName × String)) (σ : kM) (av : List Value) (P : Int → Prop) : Prop := Met l y wsy rm (kPp D cl tys (w σ) ns av) (kQp P) 0 0 (fun _ => False)
theorem k_enterP {l : Launch} {y : MethodName} {wsy ws' : List Cond} {rm : Room} {cc : ByteArray} {maxL : Nat} {ret : Option FieldType} {D : va_G} {cl : List vw_C} {tys : List (ClassId × FieldType)} {w0 : va_W} {ns : List (String × Nat × MethodName × String)} {av : List Value} {Qc : Array Value → State → Outcome → State → Prop} {free : Addr → Prop} (hy : plainName y.cls = true) (hw : wsy = Cond.code y cc maxL ret :: ws') (hlen : (lg_sl av).length ≤ maxL)
    (body : ∀ (p : Program) (e : Env) (s : State) (m : MethodId) (below : List Frame) (meth : Method) (c : Code) (ls : Array Slot), CallFix p m c cc maxL s av.toArray wsy y.cls → meth.sig.returnType = ret → meth.locks = false → va_P D cl w0 s.heap → va_K D cl tys s → kNw ns s → lv_has ls maxL (lv_args 0 av) →
      W p l e (headSpec wsy rm).room s m av.toArray below meth c s.heap [] 0 0 (MQ below Qc av.toArray s 0 0 free) (F0 m 0 ls [])) : Met l y wsy rm (kPp D cl tys w0 ns av) Qc 0 0 free := by
  refine Met.ofW (cc := cc) (maxL := maxL) (ret := ret) hy hw ?_
  intro p e s m args below meth c s₁ B hml hv
  obtain ⟨rfl, hP, hK, hn⟩ := hv
  have hl := lv_entry av (n := maxL) hlen
  rw [lg_entry_eq]
  generalize (lg_sl av ++ List.replicate (maxL - (lg_sl av).length) Slot.unset).toArray = ls at hl ⊢
  exact body p e s m below meth c ls ⟨B.exec, B.bytes, hml, findClass_of_methodNamed B.named, atoms_spec (ws := wsy) B.pre⟩ B.returns B.notSynchronized hP hK hn hl
section KX
variable {p : Program} {l : Launch} {e : Env} {R : Room} {s : State} {m : MethodId} {args : Array Value} {below : List Frame} {meth : Method} {c : Code} {H : Heap} {locs : List Loc} {cells slots : Nat} {Q : State → Prop}
variable {cc : ByteArray} {pc : Nat} {ls : Array Slot} {rest : List Value} {D : va_G} {cl : List vw_C} {A : Nat → Prop} {a : Nat} {tys : List (ClassId × FieldType)} {ws : va_W} {H0 : Heap}
theorem k_iret (hx : p.tables.exec = Jvm.exec) (hb : c.code = cc) (hr : meth.sig.returnType = some .int) (hlocks : meth.locks = false) {w : kM → va_W} {P : Int → kM → Prop} {σ : kM} {z : Int} (hW : kW D cl A s.heap (w σ) H locs) (hdg : decode cc pc = .ok (.ireturn, 1)) (hp : P z σ) : W p l e R s m args below meth c H locs cells slots (MQ below (kQi D cl w P A) args s cells slots A) (F0 m pc ls [.int (iI z)]) :=
  W.iret (v := iI z) hx hb hr (fun t ht _ => ⟨⟨iI z, (z, σ), rfl, ⟨rfl, hp⟩, by dsimp only; rw [ht]; exact hW.1⟩, hW.2.2.F ht⟩) hW.2.2.2.2 hdg hlocks
theorem k_zret (hx : p.tables.exec = Jvm.exec) (hb : c.code = cc) (hr : meth.sig.returnType = some .boolean) (hlocks : meth.locks = false) {w : kM → va_W} {P : Int → kM → Prop} {σ : kM} {z : Int} (hW : kW D cl A s.heap (w σ) H locs) (hdg : decode cc pc = .ok (.ireturn, 1)) (hz : z = 0 ∨ z = 1) (hp : P z σ) : W p l e R s m args below meth c H locs cells slots (MQ below (kQi D cl w P A) args s cells slots A) (F0 m pc ls [.int (iI z)]) :=
  W.zret (v := iI z) hx hb hr (narZ hz) (fun t ht _ => ⟨⟨iI z, (z, σ), rfl, ⟨rfl, hp⟩, by dsimp only; rw [ht]; exact hW.1⟩, hW.2.2.F ht⟩) hW.2.2.2.2 hdg hlocks
theorem k_vret (hx : p.tables.exec = Jvm.exec) (hb : c.code = cc) (hr : meth.sig.returnType = none) (hlocks : meth.locks = false) {w : kM → va_W} {P : kM → Prop} {σ : kM} (hW : kW D cl A s.heap (w σ) H locs) (hdg : decode cc pc = .ok (.return_, 1)) (hp : P σ) : W p l e R s m args below meth c H locs cells slots (MQ below (kQv D cl w P A) args s cells slots A) (F0 m pc ls []) :=
  W.vret hx hb hr (fun t ht _ => ⟨⟨σ, rfl, hp, by dsimp only; rw [ht]; exact hW.1⟩, hW.2.2.F ht⟩) hW.2.2.2.2 hdg hlocks
theorem k_iretP (hx : p.tables.exec = Jvm.exec) (hb : c.code = cc) (hr : meth.sig.returnType = some .int) (hlocks : meth.locks = false) {P : Int → Prop} {z : Int} (hdg : decode cc pc = .ok (.ireturn, 1)) (hp : P z) : W p l e R s m args below meth c s.heap [] cells slots (MQ below (kQp P) args s cells slots (fun _ => False)) (F0 m pc ls [.int (iI z)]) :=
  W.iret (v := iI z) hx hb hr (fun t ht _ => ⟨z, rfl, hp, ht⟩) (fun _ h => by cases h) hdg hlocks
theorem k_zretP (hx : p.tables.exec = Jvm.exec) (hb : c.code = cc) (hr : meth.sig.returnType = some .boolean) (hlocks : meth.locks = false) {P : Int → Prop} {z : Int} (hdg : decode cc pc = .ok (.ireturn, 1)) (hz : z = 0 ∨ z = 1) (hp : P z) : W p l e R s m args below meth c s.heap [] cells slots (MQ below (kQp P) args s cells slots (fun _ => False)) (F0 m pc ls [.int (iI z)]) :=
  W.zret (v := iI z) hx hb hr (narZ hz) (fun t ht _ => ⟨z, rfl, hp, ht⟩) (fun _ h => by cases h) hdg hlocks
theorem k_get (hx : p.tables.exec = Jvm.exec) (hb : c.code = cc) {own C : String} {T : u_T} {N ci index : Nat} {Ts : List Cond} (hts : ∀ w ∈ Ts, w.before args s = true) (hin : ∀ w ∈ u_ws C T N, w ∈ Ts) (hown : s.vm.findClass own = some m.cls) (hK : va_K D cl tys s) (hP : va_P D cl ws H) (q0 : Nat) {fs : List Value} (he : ws[q0]? = some (a, .inr (ci, fs))) (hc : cl[ci]? = some (C, T, N)) (k : Nat) (hk : k < N) (hlink : (Cond.fieldLink own index (T k).1 (T k).2.1 (T k).2.2.1).before args s = true) {v : Value} (hv : fs[k]? = some v) (hdg : decode cc pc = .ok (.getfield index, 3))
    (kk : W p l e R s m args below meth c H locs cells slots Q (F0 m (pc + 3) ls (v :: rest))) : W p l e R s m args below meth c H locs cells slots Q (F0 m pc ls (.ref a :: rest)) :=
  va_get hx hb hts hin hown hK hP q0 he hc k hk hlink (fun _ h => h) hv hdg kk
theorem k_put (hx : p.tables.exec = Jvm.exec) (hb : c.code = cc) {own C : String} {T : u_T} {N ci index : Nat} {Ts : List Cond} (hts : ∀ w ∈ Ts, w.before args s = true) (hin : ∀ w ∈ u_ws C T N, w ∈ Ts) (ty0 : Nat → FieldType) (hty : ∀ k, k < N → parseFieldDescriptor (T k).2.2.1 = some (ty0 k)) (hnm : ∀ a, a < N → ∀ b, b < N → a ≠ b → (T a).2.1 ≠ (T b).2.1) (hown : s.vm.findClass own = some m.cls) (hK : va_K D cl tys s) (hW : kW D cl A H0 ws H locs) (q0 : Nat) {fs : List Value} {ws' : va_W} (he : ws[q0]? = some (a, .inr (ci, fs))) (hc : cl[ci]? = some (C, T, N)) (k : Nat) (hk : k < N) (hlink : (Cond.fieldLink own index (T k).1 (T k).2.1 (T k).2.2.1).before args s = true) (hfin : (T k).2.2.2 = false) {ty : FieldType} {v : Value} (hd : parseFieldDescriptor (T k).2.2.1 = some ty) (hn : narrow ty v = v) (hfit : fits ty v = true) (hl : k < fs.length) (hw : ws.set q0 (a, .inr (ci, fs.set k v)) = ws')
    (hdg : decode cc pc = .ok (.putfield index, 3)) (kk : ∀ (H1 : Heap) (locs1 : List Loc), kW D cl A H0 ws' H1 locs1 → W p l e R s m args below meth c H1 locs1 cells slots Q (F0 m (pc + 3) ls rest)) : W p l e R s m args below meth c H locs cells slots Q (F0 m pc ls (v :: .ref a :: rest)) :=
  va_put hx hb hts hin ty0 hty hnm hown hK hW.1 hW.2.1 hW.2.2 q0 he hc k hk hlink (fun _ h => h) hfin hd hn hfit hl hdg (fun H1 locs1 h1 h2 h3 => kk H1 locs1 (by rw [← hw]; exact ⟨h1, h2, h3⟩))
theorem k_iald (hx : p.tables.exec = Jvm.exec) (hb : c.code = cc) (hK : va_K D cl tys s) (hP : va_P D cl ws H) (q0 t0 : Nat) {cA : ClassId} {n : Nat} (f : Nat → Int) (ha : ws[q0]? = some (a, .inl (cA, n, .inl (fun j => iI (f j))))) (ht : tys[t0]? = some (cA, .int)) {i : Int} (q : 0 ≤ i ∧ i < (n : Int) ∧ i < 2147483648) (hdg : decode cc pc = .ok (.iaload, 1))
    (kk : W p l e R s m args below meth c H locs cells slots Q (F0 m (pc + 1) ls (.int (iI (f i.toNat)) :: rest))) : W p l e R s m args below meth c H locs cells slots Q (F0 m pc ls (.int (iI i) :: .ref a :: rest)) := by
  have hr : iR i := ⟨by have := q.1; omega, q.2.2⟩
  exact va_iald hx hb hK hP q0 t0 ha ht (iI_in hr q.1 q.2.1) hdg (by rw [iI_clamp hr]; exact kk)
theorem k_zald (hx : p.tables.exec = Jvm.exec) (hb : c.code = cc) (hK : va_K D cl tys s) (hP : va_P D cl ws H) (q0 t0 : Nat) {cA : ClassId} {n : Nat} (f : Nat → Int) (ha : ws[q0]? = some (a, .inl (cA, n, .inl (fun j => iI (f j))))) (ht : tys[t0]? = some (cA, .boolean)) {i : Int} (q : 0 ≤ i ∧ i < (n : Int) ∧ i < 2147483648) (hdg : decode cc pc = .ok (.baload, 1))
    (kk : W p l e R s m args below meth c H locs cells slots Q (F0 m (pc + 1) ls (.int (iI (f i.toNat)) :: rest))) : W p l e R s m args below meth c H locs cells slots Q (F0 m pc ls (.int (iI i) :: .ref a :: rest)) := by
  have hr : iR i := ⟨by have := q.1; omega, q.2.2⟩
  exact va_zald hx hb hK hP q0 t0 ha ht (iI_in hr q.1 q.2.1) hdg (by rw [iI_clamp hr]; exact kk)
theorem k_lald (hx : p.tables.exec = Jvm.exec) (hb : c.code = cc) (hK : va_K D cl tys s) (hP : va_P D cl ws H) (q0 t0 : Nat) {cA : ClassId} {n : Nat} (f : Nat → Int) (ha : ws[q0]? = some (a, .inl (cA, n, .inr (.inl (fun j => lI (f j)))))) (ht : tys[t0]? = some (cA, .long)) {i : Int} (q : 0 ≤ i ∧ i < (n : Int) ∧ i < 2147483648) (hdg : decode cc pc = .ok (.laload, 1))
    (kk : W p l e R s m args below meth c H locs cells slots Q (F0 m (pc + 1) ls (.long (lI (f i.toNat)) :: rest))) : W p l e R s m args below meth c H locs cells slots Q (F0 m pc ls (.int (iI i) :: .ref a :: rest)) := by
  have hr : iR i := ⟨by have := q.1; omega, q.2.2⟩
  exact va_lald hx hb hK hP q0 t0 ha ht (iI_in hr q.1 q.2.1) hdg (by rw [iI_clamp hr]; exact kk)
theorem k_iast (hx : p.tables.exec = Jvm.exec) (hb : c.code = cc) (hK : va_K D cl tys s) (hW : kW D cl A H0 ws H locs) (q0 t0 : Nat) {cA : ClassId} {n : Nat} (f : Nat → Int) {ws' : va_W} (ha : ws[q0]? = some (a, .inl (cA, n, .inl (fun j => iI (f j))))) (ht : tys[t0]? = some (cA, .int)) {i z : Int} (q : 0 ≤ i ∧ i < (n : Int) ∧ i < 2147483648) (hw : ws.set q0 (a, .inl (cA, n, .inl (fun j => iI (va_up f i.toNat z j)))) = ws') (hdg : decode cc pc = .ok (.iastore, 1))
    (kk : ∀ (H1 : Heap) (locs1 : List Loc), kW D cl A H0 ws' H1 locs1 → W p l e R s m args below meth c H1 locs1 cells slots Q (F0 m (pc + 1) ls rest)) : W p l e R s m args below meth c H locs cells slots Q (F0 m pc ls (.int (iI z) :: .int (iI i) :: .ref a :: rest)) := by
  have hr : iR i := ⟨by have := q.1; omega, q.2.2⟩
  refine va_iast hx hb hK hW.1 hW.2.1 hW.2.2 q0 t0 ha ht (iI_in hr q.1 q.2.1) hdg (fun H1 locs1 h1 h2 h3 => kk H1 locs1 ?_)
  rw [iI_clamp hr, upd_iI] at h1 h2
  rw [← hw]
  exact ⟨h1, h2, h3⟩
theorem k_zast (hx : p.tables.exec = Jvm.exec) (hb : c.code = cc) (hK : va_K D cl tys s) (hW : kW D cl A H0 ws H locs) (q0 t0 : Nat) {cA : ClassId} {n : Nat} (f : Nat → Int) {ws' : va_W} (ha : ws[q0]? = some (a, .inl (cA, n, .inl (fun j => iI (f j))))) (ht : tys[t0]? = some (cA, .boolean)) {i z : Int} (q : 0 ≤ i ∧ i < (n : Int) ∧ i < 2147483648) (hz : z = 0 ∨ z = 1) (hw : ws.set q0 (a, .inl (cA, n, .inl (fun j => iI (va_up f i.toNat z j)))) = ws') (hdg : decode cc pc = .ok (.bastore, 1))
    (kk : ∀ (H1 : Heap) (locs1 : List Loc), kW D cl A H0 ws' H1 locs1 → W p l e R s m args below meth c H1 locs1 cells slots Q (F0 m (pc + 1) ls rest)) : W p l e R s m args below meth c H locs cells slots Q (F0 m pc ls (.int (iI z) :: .int (iI i) :: .ref a :: rest)) := by
  have hr : iR i := ⟨by have := q.1; omega, q.2.2⟩
  refine va_zast hx hb hK hW.1 hW.2.1 hW.2.2 q0 t0 ha ht (iI_in hr q.1 q.2.1) hdg (fun H1 locs1 h1 h2 h3 => kk H1 locs1 ?_)
  rw [iI_clamp hr, vnarZ hz, upd_iI] at h1 h2
  rw [← hw]
  exact ⟨h1, h2, h3⟩
theorem k_last (hx : p.tables.exec = Jvm.exec) (hb : c.code = cc) (hK : va_K D cl tys s) (hW : kW D cl A H0 ws H locs) (q0 t0 : Nat) {cA : ClassId} {n : Nat} (f : Nat → Int) {ws' : va_W} (ha : ws[q0]? = some (a, .inl (cA, n, .inr (.inl (fun j => lI (f j)))))) (ht : tys[t0]? = some (cA, .long)) {i z : Int} (q : 0 ≤ i ∧ i < (n : Int) ∧ i < 2147483648) (hw : ws.set q0 (a, .inl (cA, n, .inr (.inl (fun j => lI (va_up f i.toNat z j))))) = ws') (hdg : decode cc pc = .ok (.lastore, 1))
    (kk : ∀ (H1 : Heap) (locs1 : List Loc), kW D cl A H0 ws' H1 locs1 → W p l e R s m args below meth c H1 locs1 cells slots Q (F0 m (pc + 1) ls rest)) : W p l e R s m args below meth c H locs cells slots Q (F0 m pc ls (.long (lI z) :: .int (iI i) :: .ref a :: rest)) := by
  have hr : iR i := ⟨by have := q.1; omega, q.2.2⟩
  refine va_last hx hb hK hW.1 hW.2.1 hW.2.2 q0 t0 ha ht (iI_in hr q.1 q.2.1) hdg (fun H1 locs1 h1 h2 h3 => kk H1 locs1 ?_)
  rw [iI_clamp hr, updL_lI] at h1 h2
  rw [← hw]
  exact ⟨h1, h2, h3⟩
/-- longs compared, and the branch behind: the four forms -/
theorem kl_cmp (hx : p.tables.exec = Jvm.exec) (hb : c.code = cc) {x y : Int} (rx : lR x) (ry : lR y) (hd : decode cc pc = .ok (.lcmp, 1)) (k : W p l e R s m args below meth c H locs cells slots Q (F0 m (pc + 1) ls (.int (iI (if y < x then 1 else if x = y then 0 else -1)) :: rest))) : W p l e R s m args below meth c H locs cells slots Q (F0 m pc ls (.long (lI y) :: .long (lI x) :: rest)) := by
  refine W.lcmp hx hb hd ?_
  have h : lg_cmp (lI x) (lI y) = iI (if y < x then 1 else if x = y then 0 else -1) := by
    unfold lg_cmp
    by_cases h1 : y < x
    · rw [if_pos (show lI x > lI y from (lI_lt ry rx).mpr h1), if_pos h1]; decide
    · rw [if_neg (fun q => h1 ((lI_lt ry rx).mp q)), if_neg h1]
      by_cases h2 : x = y
      · rw [if_pos ((lI_eq rx ry).mpr h2), if_pos h2]; decide
      · rw [if_neg (fun q => h2 ((lI_eq rx ry).mp q)), if_neg h2]; decide
  rw [h]
  exact k
theorem kmx (hx : p.tables.exec = Jvm.exec) (hb : c.code = cc) (hml : c.maxLocals = ls.size) {own : String} {index : Nat} (hown : s.vm.findClass own = some m.cls) (hlink : (Cond.methodLink own index Lib.Math.max.name).before args s = true) (hstat : (Cond.static Lib.Math.max.name).before args s = true) (hini : (Cond.initialized "java/lang/Math").before args s = true) (hcode : (Cond.code Lib.Math.max.name Lib.Math.max.code 2 (some .int)).before args s = true)
    (hR : 1 ≤ R.frames ∧ (rest.map fun v => v.category).sum + 13 ≤ R.locals) (hc : cells ≤ R.cells ∧ slots ≤ R.slots) {x y : Int} (rx : iR x) (ry : iR y) (hdg : decode cc pc = .ok (.invokestatic index, 3))
    (kk : W p l e R s m args below meth c H locs cells slots Q (F0 m (pc + 3) ls (.int (iI (if x < y then y else x)) :: rest))) : W p l e R s m args below meth c H locs cells slots Q (F0 m pc ls (.int (iI y) :: .int (iI x) :: rest)) := by
  refine va_mmax hx hb hml hown hlink hstat hini hcode hR.1 hR.2 hc.1 hc.2 hdg ?_
  have h : (if iI x < iI y then iI y else iI x) = iI (if x < y then y else x) := by
    by_cases h1 : x < y
    · rw [if_pos ((iI_lt rx ry).mpr h1), if_pos h1]
    · rw [if_neg (fun q => h1 ((iI_lt rx ry).mp q)), if_neg h1]
  rw [h]
  exact kk
theorem kmn (hx : p.tables.exec = Jvm.exec) (hb : c.code = cc) (hml : c.maxLocals = ls.size) {own : String} {index : Nat} (hown : s.vm.findClass own = some m.cls) (hlink : (Cond.methodLink own index Lib.Math.min.name).before args s = true) (hstat : (Cond.static Lib.Math.min.name).before args s = true) (hini : (Cond.initialized "java/lang/Math").before args s = true) (hcode : (Cond.code Lib.Math.min.name Lib.Math.min.code 2 (some .int)).before args s = true)
    (hR : 1 ≤ R.frames ∧ (rest.map fun v => v.category).sum + 13 ≤ R.locals) (hc : cells ≤ R.cells ∧ slots ≤ R.slots) {x y : Int} (rx : iR x) (ry : iR y) (hdg : decode cc pc = .ok (.invokestatic index, 3))
    (kk : W p l e R s m args below meth c H locs cells slots Q (F0 m (pc + 3) ls (.int (iI (if y < x then y else x)) :: rest))) : W p l e R s m args below meth c H locs cells slots Q (F0 m pc ls (.int (iI y) :: .int (iI x) :: rest)) := by
  refine va_mmin hx hb hml hown hlink hstat hini hcode hR.1 hR.2 hc.1 hc.2 hdg ?_
  have h : (if iI y < iI x then iI y else iI x) = iI (if y < x then y else x) := by
    by_cases h1 : y < x
    · rw [if_pos ((iI_lt ry rx).mpr h1), if_pos h1]
    · rw [if_neg (fun q => h1 ((iI_lt ry rx).mp q)), if_neg h1]
  rw [h]
  exact kk
theorem kF (hA : ∀ q, s.heap.size ≤ q → A q) (hW : kW D cl A s.heap ws H locs) : ∀ q, va_A ws H.size q → A q := by
  rintro q (⟨k, e, h⟩ | h)
  · exact hW.2.1.2 k (q, e) h
  · exact hA q (Nat.le_trans hW.2.2.1 h)
theorem kPre {ns : List (String × Nat × MethodName × String)} {av : List Value} (hK : va_K D cl tys s) (hN : kNw ns s) (hW : kW D cl A s.heap ws H locs) : ∀ U : State, U.heap = H → s.WarmedH U.vm → kPc D cl tys ws ns H.size av av.toArray U := fun U hU hWm => ⟨rfl, by rw [hU], by rw [hU]; exact hW.1, va_K.moved hWm.alike hK, hW.2.1.weaken (fun _ _ _ _ => trivial), hN.warm hWm⟩
theorem kPreP {ns : List (String × Nat × MethodName × String)} {av : List Value} (hK : va_K D cl tys s) (hN : kNw ns s) (hP : va_P D cl ws H) : ∀ U : State, U.heap = H → s.WarmedH U.vm → kPp D cl tys ws ns av av.toArray U := fun U hU hWm => ⟨rfl, by rw [hU]; exact hP, va_K.moved hWm.alike hK, hN.warm hWm⟩
section KC
variable {y : MethodName} {bytes : ByteArray} {maxL nL n index q0 ci : Nat} {ret : Option FieldType} {wsy Ts : List Cond} {rm : Room} {own C : String} {b : Addr} {As st : List Value} {w : kM → va_W} {σ : kM} {ns : List (String × Nat × MethodName × String)} {fs : List Value} {T : u_T} {N : Nat} {host : String}
/-- behind a call that answers an int -/
theorem kc_ki {P : Int → kM → Prop} {a0 : Array Value} (hr : va_Run p l e R s m args below meth c H locs cells slots 0 0 (F0 m pc ls st) rest (kQi D cl w P (va_A (w σ) H.size) a0) (va_A (w σ) H.size)) (hA : ∀ q, s.heap.size ≤ q → A q) (hW : kW D cl A s.heap (w σ) H locs) (hwa : ∀ σ' : kM, (w σ).map Prod.fst = (w σ').map Prod.fst)
    (kk : ∀ (r : Int) (σ' : kM) (H1 : Heap) (locs1 : List Loc), P r σ' → kW D cl A s.heap (w σ') H1 locs1 → W p l e R s m args below meth c H1 locs1 cells slots Q (F0 m (pc + 3) ls (.int (iI r) :: rest))) : W p l e R s m args below meth c H locs cells slots Q (F0 m pc ls st) := by
  refine va_calli hr hW.2.2 (fun q _ h => kF hA hW q h) (kF hA hW) (fun r u t H1 locs1 ht _ hw hB _ _ hS => ?_)
  obtain ⟨rfl, hp⟩ := hw
  rw [ht] at hB
  exact kk u.1 u.2 H1 locs1 hp ⟨hB, kW_D hW.2.1 (hwa u.2), hS⟩
theorem kc_kv {P : kM → Prop} {a0 : Array Value} (hr : va_Run p l e R s m args below meth c H locs cells slots 0 0 (F0 m pc ls st) rest (kQv D cl w P (va_A (w σ) H.size) a0) (va_A (w σ) H.size)) (hA : ∀ q, s.heap.size ≤ q → A q) (hW : kW D cl A s.heap (w σ) H locs) (hwa : ∀ σ' : kM, (w σ).map Prod.fst = (w σ').map Prod.fst)
    (kk : ∀ (σ' : kM) (H1 : Heap) (locs1 : List Loc), P σ' → kW D cl A s.heap (w σ') H1 locs1 → W p l e R s m args below meth c H1 locs1 cells slots Q (F0 m (pc + 3) ls rest)) : W p l e R s m args below meth c H locs cells slots Q (F0 m pc ls st) := by
  refine va_callv hr hW.2.2 (fun q _ h => kF hA hW q h) (kF hA hW) (fun u t H1 locs1 ht _ hw hB _ _ hS => ?_)
  rw [ht] at hB
  exact kk u H1 locs1 hw ⟨hB, kW_D hW.2.1 (hwa u), hS⟩
theorem kc_vi (S : CallFix p m c cc nL s args Ts own) {P : Int → kM → Prop} (hM : kMi l y wsy rm D cl tys w ns σ (.ref b :: As) P) (cw : CallW R s args own C index y bytes maxL ret wsy rm 0 0 n) (hK : va_K D cl tys s) (hN : kNw ns s) (hA : ∀ q, s.heap.size ≤ q → A q) (hW : kW D cl A s.heap (w σ) H locs) (hwa : ∀ σ' : kM, (w σ).map Prod.fst = (w σ').map Prod.fst)
    (hrc : cl[ci]? = some (C, T, N)) (hre : (w σ)[q0]? = some (b, .inr (ci, fs))) (hn : As.length = n) (hsize : ls.size = nL) (hst : st = As.reverse ++ .ref b :: rest) (hcat : (rest.map fun v => v.category).sum ≤ 8) (hdg : decode cc pc = .ok (.invokevirtual index, 3)) (hf : cells ≤ R.cells ∧ slots ≤ R.slots)
    (kk : ∀ (r : Int) (σ' : kM) (H1 : Heap) (locs1 : List Loc), P r σ' → kW D cl A s.heap (w σ') H1 locs1 → W p l e R s m args below meth c H1 locs1 cells slots Q (F0 m (pc + 3) ls (.int (iI r) :: rest))) : W p l e R s m args below meth c H locs cells slots Q (F0 m pc ls st) :=
  kc_ki (va_runV (As := As) (rest := rest) S (hM H.size) cw ⟨kPc.blind, va_recv hK hW.1 hrc hre, kPre hK hN hW⟩ rfl hn hsize hst (lv_room hcat) hdg hf) hA hW hwa kk
theorem kc_vv (S : CallFix p m c cc nL s args Ts own) {P : kM → Prop} (hM : kMv l y wsy rm D cl tys w ns σ (.ref b :: As) P) (cw : CallW R s args own C index y bytes maxL ret wsy rm 0 0 n) (hK : va_K D cl tys s) (hN : kNw ns s) (hA : ∀ q, s.heap.size ≤ q → A q) (hW : kW D cl A s.heap (w σ) H locs) (hwa : ∀ σ' : kM, (w σ).map Prod.fst = (w σ').map Prod.fst)
    (hrc : cl[ci]? = some (C, T, N)) (hre : (w σ)[q0]? = some (b, .inr (ci, fs))) (hn : As.length = n) (hsize : ls.size = nL) (hst : st = As.reverse ++ .ref b :: rest) (hcat : (rest.map fun v => v.category).sum ≤ 8) (hdg : decode cc pc = .ok (.invokevirtual index, 3)) (hf : cells ≤ R.cells ∧ slots ≤ R.slots)
    (kk : ∀ (σ' : kM) (H1 : Heap) (locs1 : List Loc), P σ' → kW D cl A s.heap (w σ') H1 locs1 → W p l e R s m args below meth c H1 locs1 cells slots Q (F0 m (pc + 3) ls rest)) : W p l e R s m args below meth c H locs cells slots Q (F0 m pc ls st) :=
  kc_kv (va_runV (As := As) (rest := rest) S (hM H.size) cw ⟨kPc.blind, va_recv hK hW.1 hrc hre, kPre hK hN hW⟩ rfl hn hsize hst (lv_room hcat) hdg hf) hA hW hwa kk
theorem kc_si (S : CallFix p m c cc nL s args Ts own) {P : Int → kM → Prop} (hM : kMi l y wsy rm D cl tys w ns σ As P) (cw : CallB R s args own index y bytes maxL ret wsy rm 0 0 n ∧ (Cond.static y).before args s = true) (hK : va_K D cl tys s) (hN : kNw ns s) (hA : ∀ q, s.heap.size ≤ q → A q) (hW : kW D cl A s.heap (w σ) H locs) (hwa : ∀ σ' : kM, (w σ).map Prod.fst = (w σ').map Prod.fst)
    (hn : As.length = n) (hsize : ls.size = nL) (hst : st = As.reverse ++ rest) (hcat : (rest.map fun v => v.category).sum ≤ 8) (hdg : decode cc pc = .ok (.invokestatic index, 3)) (hf : cells ≤ R.cells ∧ slots ≤ R.slots)
    (kk : ∀ (r : Int) (σ' : kM) (H1 : Heap) (locs1 : List Loc), P r σ' → kW D cl A s.heap (w σ') H1 locs1 → W p l e R s m args below meth c H1 locs1 cells slots Q (F0 m (pc + 3) ls (.int (iI r) :: rest))) : W p l e R s m args below meth c H locs cells slots Q (F0 m pc ls st) :=
  kc_ki (va_runS (As := As) (rest := rest) S (hM H.size) cw ⟨kPc.blind, kPre hK hN hW⟩ rfl hn hsize hst (lv_room hcat) hdg hf) hA hW hwa kk
theorem kc_ni (S : CallFix p m c cc nL s args Ts own) {P : Int → kM → Prop} (hM : kMi l y wsy rm D cl tys w ns σ As P) (cw : va_CN R s args own index y host bytes maxL ret wsy rm 0 0 n ∧ (Cond.static y).before args s = true ∧ True) (hK : va_K D cl tys s) (hN : kNw ns s) (hA : ∀ q, s.heap.size ≤ q → A q) (hW : kW D cl A s.heap (w σ) H locs) (hwa : ∀ σ' : kM, (w σ).map Prod.fst = (w σ').map Prod.fst)
    (hn : As.length = n) (hsize : ls.size = nL) (hst : st = As.reverse ++ rest) (hcat : (rest.map fun v => v.category).sum ≤ 8) (hdg : decode cc pc = .ok (.invokestatic index, 3)) (hf : cells ≤ R.cells ∧ slots ≤ R.slots)
    (kk : ∀ (r : Int) (σ' : kM) (H1 : Heap) (locs1 : List Loc), P r σ' → kW D cl A s.heap (w σ') H1 locs1 → W p l e R s m args below meth c H1 locs1 cells slots Q (F0 m (pc + 3) ls (.int (iI r) :: rest))) : W p l e R s m args below meth c H locs cells slots Q (F0 m pc ls st) :=
  kc_ki (va_runSN (As := As) (rest := rest) S (hM H.size) cw ⟨kPc.blind, kPre hK hN hW⟩ rfl hn hsize hst (lv_room hcat) hdg hf) hA hW hwa kk
theorem kc_kp {P : Int → Prop} {a0 : Array Value} (hr : va_Run p l e R s m args below meth c H locs cells slots 0 0 (F0 m pc ls st) rest (kQp P a0) (fun _ => False))
    (kk : ∀ r : Int, P r → W p l e R s m args below meth c H locs cells slots Q (F0 m (pc + 3) ls (.int (iI r) :: rest))) : W p l e R s m args below meth c H locs cells slots Q (F0 m pc ls st) := by
  intro T hT X
  obtain ⟨v, st₀, t, T', L, h0, X', hL, e1, e2, ⟨r, hv, hp, hh⟩, sg⟩ := hr T hT X
  cases hv
  obtain ⟨t2, a1, b1⟩ := kk r hp T' (by rw [e1, hh, h0]) (Stand.forget X' (fun q h => (hL q h).elim))
  exact ⟨t2, sg t2 a1, b1⟩
theorem kc_vp (S : CallFix p m c cc nL s args Ts own) {P : Int → Prop} (hM : kMp l y wsy rm D cl tys w ns σ (.ref b :: As) P) (cw : CallW R s args own C index y bytes maxL ret wsy rm 0 0 n) (hK : va_K D cl tys s) (hN : kNw ns s) (hP : va_P D cl (w σ) H)
    (hrc : cl[ci]? = some (C, T, N)) (hre : (w σ)[q0]? = some (b, .inr (ci, fs))) (hn : As.length = n) (hsize : ls.size = nL) (hst : st = As.reverse ++ .ref b :: rest) (hcat : (rest.map fun v => v.category).sum ≤ 8) (hdg : decode cc pc = .ok (.invokevirtual index, 3)) (hf : cells ≤ R.cells ∧ slots ≤ R.slots)
    (kk : ∀ r : Int, P r → W p l e R s m args below meth c H locs cells slots Q (F0 m (pc + 3) ls (.int (iI r) :: rest))) : W p l e R s m args below meth c H locs cells slots Q (F0 m pc ls st) :=
  kc_kp (va_runV (As := As) (rest := rest) S hM cw ⟨kPp.blind, va_recv hK hP hrc hre, kPreP hK hN hP⟩ rfl hn hsize hst (lv_room hcat) hdg hf) kk
theorem kc_sp (S : CallFix p m c cc nL s args Ts own) {P : Int → Prop} (hM : kMp l y wsy rm D cl tys w ns σ As P) (cw : CallB R s args own index y bytes maxL ret wsy rm 0 0 n ∧ (Cond.static y).before args s = true) (hK : va_K D cl tys s) (hN : kNw ns s) (hP : va_P D cl (w σ) H)
    (hn : As.length = n) (hsize : ls.size = nL) (hst : st = As.reverse ++ rest) (hcat : (rest.map fun v => v.category).sum ≤ 8) (hdg : decode cc pc = .ok (.invokestatic index, 3)) (hf : cells ≤ R.cells ∧ slots ≤ R.slots)
    (kk : ∀ r : Int, P r → W p l e R s m args below meth c H locs cells slots Q (F0 m (pc + 3) ls (.int (iI r) :: rest))) : W p l e R s m args below meth c H locs cells slots Q (F0 m pc ls st) :=
  kc_kp (va_runS (As := As) (rest := rest) S hM cw ⟨kPp.blind, kPreP hK hN hP⟩ rfl hn hsize hst (lv_room hcat) hdg hf) kk
theorem kc_np (S : CallFix p m c cc nL s args Ts own) {P : Int → Prop} (hM : kMp l y wsy rm D cl tys w ns σ As P) (cw : va_CN R s args own index y host bytes maxL ret wsy rm 0 0 n ∧ (Cond.static y).before args s = true ∧ True) (hK : va_K D cl tys s) (hN : kNw ns s) (hP : va_P D cl (w σ) H)
    (hn : As.length = n) (hsize : ls.size = nL) (hst : st = As.reverse ++ rest) (hcat : (rest.map fun v => v.category).sum ≤ 8) (hdg : decode cc pc = .ok (.invokestatic index, 3)) (hf : cells ≤ R.cells ∧ slots ≤ R.slots)
    (kk : ∀ r : Int, P r → W p l e R s m args below meth c H locs cells slots Q (F0 m (pc + 3) ls (.int (iI r) :: rest))) : W p l e R s m args below meth c H locs cells slots Q (F0 m pc ls st) :=
  kc_kp (va_runSN (As := As) (rest := rest) S hM cw ⟨kPp.blind, kPreP hK hN hP⟩ rfl hn hsize hst (lv_room hcat) hdg hf) kk
end KC
end KX
end
section
/-! METHODS THAT THROW: a contract that ends in a throw; the throw itself; the catch in the caller. -/
def kFT (st : State) (o : Outcome) (t : State) (L : List Loc) (k n : Nat) : Prop := (∃ x : Addr, o = .threw x) ∧ st.WarmedH t.vm ∧ st.sameButNew ({ t with vm := st.vm } : State) L k n
def MetT (l : Launch) (y : MethodName) (ws : List Cond) (rm : Room) (Pc : Array Value → State → Prop) (Qc : Array Value → State → Outcome → State → Prop) (mc ms : Nat) : Prop :=
  MetFree l y (headSpec ws rm) Pc (fun _ _ _ _ _ => True) (fun a st o t => Qc a st o t ∧ kFT st o t [] mc ms)
def MQT (below : List Frame) (Qc : Array Value → State → Outcome → State → Prop) (a : Array Value) (s : State) (mc ms : Nat) : State → Prop := fun t => ∃ o, t.status = .running ∧ Ended t below o ∧ Qc a s o t ∧ kFT s o t [] mc ms
/-- thrown: a new object of that class; all that was there is as it was -/
def kQt (Px : Nat → Prop) (cn : Nat → String) : Array Value → State → Outcome → State → Prop := fun _ st oc t => ∃ (k : Nat) (x : Addr) (ce : Cell), Px k ∧ oc = .threw x ∧ t.heap[x]? = some ce ∧ st.vm.findClass (cn k) = some ce.cls ∧ ce.vm = .none ∧ st.heap.size ≤ x ∧ ∀ q : Nat, q < st.heap.size → t.heap[q]? = st.heap[q]?
theorem MetT.ofW {l : Launch} {y : MethodName} {ws ws' : List Cond} {rm : Room} {Pc : Array Value → State → Prop} {Qc : Array Value → State → Outcome → State → Prop} {mc ms : Nat} {cc : ByteArray} {maxL : Nat} {ret : Option FieldType}
    (hy : plainName y.cls = true) (hw : ws = Cond.code y cc maxL ret :: ws')
    (body : ∀ p e s m args below meth c s₁, BodyLoose p l y (headSpec ws rm) cc maxL ret e s m args below meth c s₁ → c.maxLocals = maxL → c.exceptionTable.isEmpty = true → Pc args s →
      W p l e (headSpec ws rm).room s m args below meth c s.heap [] 0 0 (MQT below Qc args s mc ms) (entryFrame m args maxL)) : MetT l y ws rm Pc Qc mc ms := by
  have hin : Cond.code y cc maxL ret ∈ ws := by rw [hw]; exact List.mem_cons_self
  refine MetFree.of_bodyS (code := cc) (maxLocals := maxL) (ret := ret) hy ?_ ?_
  · intro args s m h hn
    obtain ⟨meth, c, h1, h2, h3, h4, h5, h6, -, -⟩ := Cond.code_spec hn (atoms_spec (ws := ws) h _ hin)
    exact ⟨meth, c, h1, h2, h3, h4, h5, h6⟩
  · intro p e s m args below meth c s₁ B hml hP _
    have hh0 : s₁.heap = s.heap := by rw [B.state]; rfl
    obtain ⟨t, a1, o, b1, b2, b3⟩ := body p e s m args below meth c s₁ B hml (B.noHandlers (atoms_spec (ws := ws) B.pre _ hin)) hP s₁ hh0 (Stand.of_body B)
    exact ⟨t, o, a1, b1, b2, b3⟩
theorem kCellSame {s s' : State} {k n : Nat} (h : s.sameButNew s' [] k n) {q : Nat} (hq : q < s.heap.size) : s'.heap[q]? = s.heap[q]? := by
  obtain ⟨-, -, -, -, -, h6⟩ := h
  have hg : s.heap[q]? = some s.heap[q] := Array.getElem?_eq_getElem hq
  obtain ⟨c', h1, h2, h3, h4⟩ := h6 q _ hg
  rw [h1, hg, h2]
  congr 1
  have : c'.slots = (s.heap[q]).slots := by
    apply Array.ext_getElem?
    intro i
    exact h4 i (by intro z; cases z)
  rw [this]
section KT
variable {p : Program} {l : Launch} {e : Env} {R : Room} {s : State} {m : MethodId} {args : Array Value} {below : List Frame} {meth : Method} {c : Code} {Q : State → Prop}
variable {cc : ByteArray} {pc : Nat} {ls : Array Slot}
theorem k_thr {own cls text : String} {names : List String} {ia ib ic : Nat} {Px : Nat → Prop} {cn : Nat → String} (k : Nat) (hcn : cn k = cls) (hx : p.tables.exec = Jvm.exec) (hb : c.code = cc) (hlocks : meth.locks = false) (hno : c.exceptionTable.isEmpty = true) (htr : l.stackTraces = false) (hsz : ls.size = c.maxLocals)
    (hown : s.vm.findClass own = some m.cls) (hcl : (Cond.classLink own ia cls).before args s = true) (hini : (Cond.initialized cls).before args s = true) (hstr : (Cond.stringRef own ib text).before args s = true)
    (hfit : Bundle.fit cls = true) (hnames : ∀ n ∈ names, Bundle.fit n = true) (hat : ∀ a ∈ Bundle.ownAtoms own ic cls names, a.before args s = true) (hins : (Cond.instantiable cls 6).before args s = true)
    (hd0 : decode cc pc = .ok (.new ia, 3)) (hd3 : decode cc (pc + 3) = .ok (.dup, 1)) (hd4 : decode cc (pc + 4) = .ok (.ldc ib, 2)) (hd6 : decode cc (pc + 6) = .ok (.invokespecial ic, 3)) (hd9 : decode cc (pc + 9) = .ok (.athrow, 1))
    (hR : names.length + 3 < R.frames ∧ 1 + (13 * (names.length + 1) + 42) ≤ R.locals ∧ 1 ≤ R.cells ∧ 6 ≤ R.slots) (hp : Px k) :
    W p l e R s m args below meth c s.heap [] 0 0 (MQT below (kQt Px cn) args s 1 6) (F0 m pc ls []) := by
  intro T hT X
  have htr' : e.platform.stackTraces = false := by rw [X.admits.platform]; exact htr
  subst hb
  obtain ⟨vm₁, cX, kX, hfX, hkX, -, -, X₁, st1⟩ := X.newCold hx (own := own) (C := cls) (index := ia) (n := 6) hown hcl hins hini (g := F0 m pc ls []) rfl hd0 (by have := hR.2.2.1; omega) (by have := hR.2.2.2; omega)
  generalize hT1 : (T.setVm vm₁).pushCell { cls := cX, slots := kX.instanceTypes.map defaultValue, vm := .none } = T1 at X₁ st1
  have hcellA : T1.heap[T.heap.size]? = some (freshCell cX kX) := by rw [← hT1]; exact State.heap_pushCell_size _ _
  obtain ⟨-, -, -, sa, -, -, -, -, -, hev⟩ := Cond.stringRef_spec hown hstr
  obtain ⟨U, hsteps, hrun, hend, hW, hsame, ce, hce, K⟩ := X₁.ctorThrowS hx htr' (own := own) (cls := cls) (names := names) (ic := ic) hown hfit hnames hat (fun y hy => by cases hy) hfX hkX hcellA (by rw [hT]; exact Nat.le_refl _) (msg := .ref sa) rfl
    (g := F0 m (pc + 6) ls [.ref sa, .ref T.heap.size, .ref T.heap.size]) rfl hsz rfl rfl (rest := []) rfl hd6 hd9 (covers_of_empty hno _) hR.1 (by have := hR.2.1; simpa [Value.category] using this)
  refine ⟨U, st1 _ ?_, .threw T.heap.size, hrun, hend, ⟨k, T.heap.size, ce, hp, rfl, hce, by rw [hcn]; exact K.cls, K.vm, by rw [hT]; exact Nat.le_refl _, fun q hq => ?_⟩, ⟨_, rfl⟩, hW, hsame⟩
  · show Steps p.tables e below (T1.setTop (F0 m (pc + 3) ls [.ref T.heap.size])) _
    jvm_step X₁.here [X₁.here.top, hx, hd3, Value.category]
    exact X₁.ldcString hx (own := own) (text := text) (index := ib) (a := sa) hown hstr hev (g := F0 m (pc + 4) ls [.ref T.heap.size, .ref T.heap.size]) rfl hd4 _ hsteps
  · exact kCellSame hsame hq
end KT
end
section
theorem dP_init_0 : decode b_P_init 0 = .ok (.aload_n 0, 1) := by decide +kernel
theorem dP_init_1 : decode b_P_init 1 = .ok (.invokespecial 1, 3) := by decide +kernel
theorem dP_init_4 : decode b_P_init 4 = .ok (.aload_n 0, 1) := by decide +kernel
theorem dP_init_5 : decode b_P_init 5 = .ok (.new 7, 3) := by decide +kernel
theorem dP_init_8 : decode b_P_init 8 = .ok (.dup, 1) := by decide +kernel
theorem dP_init_9 : decode b_P_init 9 = .ok (.iload_n 1, 1) := by decide +kernel
theorem dP_init_10 : decode b_P_init 10 = .ok (.iconst 1, 1) := by decide +kernel
theorem dP_init_11 : decode b_P_init 11 = .ok (.iconst 4, 1) := by decide +kernel
theorem dP_init_12 : decode b_P_init 12 = .ok (.invokestatic 11, 3) := by decide +kernel
theorem dP_init_15 : decode b_P_init 15 = .ok (.iload_n 2, 1) := by decide +kernel
theorem dP_init_16 : decode b_P_init 16 = .ok (.iconst 1, 1) := by decide +kernel
theorem dP_init_17 : decode b_P_init 17 = .ok (.bipush 10, 2) := by decide +kernel
theorem dP_init_19 : decode b_P_init 19 = .ok (.invokestatic 11, 3) := by decide +kernel
theorem dP_init_22 : decode b_P_init 22 = .ok (.invokespecial 15, 3) := by decide +kernel
theorem dP_init_25 : decode b_P_init 25 = .ok (.putfield 18, 3) := by decide +kernel
theorem dP_init_28 : decode b_P_init 28 = .ok (.aload_n 0, 1) := by decide +kernel
theorem dP_init_29 : decode b_P_init 29 = .ok (.new 22, 3) := by decide +kernel
theorem dP_init_32 : decode b_P_init 32 = .ok (.dup, 1) := by decide +kernel
theorem dP_init_33 : decode b_P_init 33 = .ok (.aload_n 0, 1) := by decide +kernel
theorem dP_init_34 : decode b_P_init 34 = .ok (.getfield 18, 3) := by decide +kernel
theorem dP_init_37 : decode b_P_init 37 = .ok (.invokespecial 24, 3) := by decide +kernel
theorem dP_init_40 : decode b_P_init 40 = .ok (.putfield 27, 3) := by decide +kernel
theorem dP_init_43 : decode b_P_init 43 = .ok (.aload_n 0, 1) := by decide +kernel
theorem dP_init_44 : decode b_P_init 44 = .ok (.new 31, 3) := by decide +kernel
theorem dP_init_47 : decode b_P_init 47 = .ok (.dup, 1) := by decide +kernel
theorem dP_init_48 : decode b_P_init 48 = .ok (.invokespecial 33, 3) := by decide +kernel
theorem dP_init_51 : decode b_P_init 51 = .ok (.putfield 34, 3) := by decide +kernel
theorem dP_init_54 : decode b_P_init 54 = .ok (.aload_n 0, 1) := by decide +kernel
theorem dP_init_55 : decode b_P_init 55 = .ok (.new 38, 3) := by decide +kernel
theorem dP_init_58 : decode b_P_init 58 = .ok (.dup, 1) := by decide +kernel
theorem dP_init_59 : decode b_P_init 59 = .ok (.invokespecial 40, 3) := by decide +kernel
theorem dP_init_62 : decode b_P_init 62 = .ok (.putfield 41, 3) := by decide +kernel
theorem dP_init_65 : decode b_P_init 65 = .ok (.aload_n 0, 1) := by decide +kernel
theorem dP_init_66 : decode b_P_init 66 = .ok (.new 45, 3) := by decide +kernel
theorem dP_init_69 : decode b_P_init 69 = .ok (.dup, 1) := by decide +kernel
theorem dP_init_70 : decode b_P_init 70 = .ok (.invokespecial 47, 3) := by decide +kernel
theorem dP_init_73 : decode b_P_init 73 = .ok (.putfield 48, 3) := by decide +kernel
theorem dP_init_76 : decode b_P_init 76 = .ok (.aload_n 0, 1) := by decide +kernel
theorem dP_init_77 : decode b_P_init 77 = .ok (.new 52, 3) := by decide +kernel
theorem dP_init_80 : decode b_P_init 80 = .ok (.dup, 1) := by decide +kernel
theorem dP_init_81 : decode b_P_init 81 = .ok (.invokespecial 54, 3) := by decide +kernel
theorem dP_init_84 : decode b_P_init 84 = .ok (.putfield 55, 3) := by decide +kernel
theorem dP_init_87 : decode b_P_init 87 = .ok (.aload_n 0, 1) := by decide +kernel
theorem dP_init_88 : decode b_P_init 88 = .ok (.new 59, 3) := by decide +kernel
theorem dP_init_91 : decode b_P_init 91 = .ok (.dup, 1) := by decide +kernel
theorem dP_init_92 : decode b_P_init 92 = .ok (.invokespecial 61, 3) := by decide +kernel
theorem dP_init_95 : decode b_P_init 95 = .ok (.putfield 62, 3) := by decide +kernel
theorem dP_init_98 : decode b_P_init 98 = .ok (.return_, 1) := by decide +kernel
theorem dP_cell_0 : decode b_P_cell 0 = .ok (.aload_n 0, 1) := by decide +kernel
theorem dP_cell_1 : decode b_P_cell 1 = .ok (.getfield 18, 3) := by decide +kernel
theorem dP_cell_4 : decode b_P_cell 4 = .ok (.iload_n 1, 1) := by decide +kernel
theorem dP_cell_5 : decode b_P_cell 5 = .ok (.iload_n 2, 1) := by decide +kernel
theorem dP_cell_6 : decode b_P_cell 6 = .ok (.iload_n 3, 1) := by decide +kernel
theorem dP_cell_7 : decode b_P_cell 7 = .ok (.invokevirtual 66, 3) := by decide +kernel
theorem dP_cell_10 : decode b_P_cell 10 = .ok (.ifCond .ne 13, 3) := by decide +kernel
theorem dP_cell_13 : decode b_P_cell 13 = .ok (.new 70, 3) := by decide +kernel
theorem dP_cell_16 : decode b_P_cell 16 = .ok (.dup, 1) := by decide +kernel
theorem dP_cell_17 : decode b_P_cell 17 = .ok (.ldc 72, 2) := by decide +kernel
theorem dP_cell_19 : decode b_P_cell 19 = .ok (.invokespecial 74, 3) := by decide +kernel
theorem dP_cell_22 : decode b_P_cell 22 = .ok (.athrow, 1) := by decide +kernel
theorem dP_cell_23 : decode b_P_cell 23 = .ok (.aload_n 0, 1) := by decide +kernel
theorem dP_cell_24 : decode b_P_cell 24 = .ok (.getfield 18, 3) := by decide +kernel
theorem dP_cell_27 : decode b_P_cell 27 = .ok (.iload_n 1, 1) := by decide +kernel
theorem dP_cell_28 : decode b_P_cell 28 = .ok (.iload_n 2, 1) := by decide +kernel
theorem dP_cell_29 : decode b_P_cell 29 = .ok (.iload_n 3, 1) := by decide +kernel
theorem dP_cell_30 : decode b_P_cell 30 = .ok (.iload 4, 2) := by decide +kernel
theorem dP_cell_32 : decode b_P_cell 32 = .ok (.invokevirtual 77, 3) := by decide +kernel
theorem dP_cell_35 : decode b_P_cell 35 = .ok (.istore 5, 2) := by decide +kernel
theorem dP_cell_37 : decode b_P_cell 37 = .ok (.iload 5, 2) := by decide +kernel
theorem dP_cell_39 : decode b_P_cell 39 = .ok (.ifCond .eq 24, 3) := by decide +kernel
theorem dP_cell_42 : decode b_P_cell 42 = .ok (.aload_n 0, 1) := by decide +kernel
theorem dP_cell_43 : decode b_P_cell 43 = .ok (.getfield 27, 3) := by decide +kernel
theorem dP_cell_46 : decode b_P_cell 46 = .ok (.invokevirtual 81, 3) := by decide +kernel
theorem dP_cell_49 : decode b_P_cell 49 = .ok (.aload_n 0, 1) := by decide +kernel
theorem dP_cell_50 : decode b_P_cell 50 = .ok (.getfield 34, 3) := by decide +kernel
theorem dP_cell_53 : decode b_P_cell 53 = .ok (.invokevirtual 84, 3) := by decide +kernel
theorem dP_cell_56 : decode b_P_cell 56 = .ok (.aload_n 0, 1) := by decide +kernel
theorem dP_cell_57 : decode b_P_cell 57 = .ok (.getfield 55, 3) := by decide +kernel
theorem dP_cell_60 : decode b_P_cell 60 = .ok (.invokevirtual 85, 3) := by decide +kernel
theorem dP_cell_63 : decode b_P_cell 63 = .ok (.iload 5, 2) := by decide +kernel
theorem dP_cell_65 : decode b_P_cell 65 = .ok (.ireturn, 1) := by decide +kernel
theorem dP_room_0 : decode b_P_room 0 = .ok (.aload_n 0, 1) := by decide +kernel
theorem dP_room_1 : decode b_P_room 1 = .ok (.getfield 27, 3) := by decide +kernel
theorem dP_room_4 : decode b_P_room 4 = .ok (.invokevirtual 86, 3) := by decide +kernel
theorem dP_room_7 : decode b_P_room 7 = .ok (.ireturn, 1) := by decide +kernel
theorem dP_axis_0 : decode b_P_axis 0 = .ok (.iload_n 1, 1) := by decide +kernel
theorem dP_axis_1 : decode b_P_axis 1 = .ok (.iconst 0, 1) := by decide +kernel
theorem dP_axis_2 : decode b_P_axis 2 = .ok (.iconst 3, 1) := by decide +kernel
theorem dP_axis_3 : decode b_P_axis 3 = .ok (.invokestatic 90, 3) := by decide +kernel
theorem dP_axis_6 : decode b_P_axis 6 = .ok (.ifCond .ne 13, 3) := by decide +kernel
theorem dP_axis_9 : decode b_P_axis 9 = .ok (.new 70, 3) := by decide +kernel
theorem dP_axis_12 : decode b_P_axis 12 = .ok (.dup, 1) := by decide +kernel
theorem dP_axis_13 : decode b_P_axis 13 = .ok (.ldc 93, 2) := by decide +kernel
theorem dP_axis_15 : decode b_P_axis 15 = .ok (.invokespecial 74, 3) := by decide +kernel
theorem dP_axis_18 : decode b_P_axis 18 = .ok (.athrow, 1) := by decide +kernel
theorem dP_axis_19 : decode b_P_axis 19 = .ok (.aload_n 0, 1) := by decide +kernel
theorem dP_axis_20 : decode b_P_axis 20 = .ok (.getfield 27, 3) := by decide +kernel
theorem dP_axis_23 : decode b_P_axis 23 = .ok (.iload_n 1, 1) := by decide +kernel
theorem dP_axis_24 : decode b_P_axis 24 = .ok (.invokevirtual 95, 3) := by decide +kernel
theorem dP_axis_27 : decode b_P_axis 27 = .ok (.ireturn, 1) := by decide +kernel
theorem dP_radius_0 : decode b_P_radius 0 = .ok (.aload_n 0, 1) := by decide +kernel
theorem dP_radius_1 : decode b_P_radius 1 = .ok (.getfield 27, 3) := by decide +kernel
theorem dP_radius_4 : decode b_P_radius 4 = .ok (.invokevirtual 99, 3) := by decide +kernel
theorem dP_radius_7 : decode b_P_radius 7 = .ok (.ireturn, 1) := by decide +kernel
theorem dP_roomOf_0 : decode b_P_roomOf 0 = .ok (.aload_n 0, 1) := by decide +kernel
theorem dP_roomOf_1 : decode b_P_roomOf 1 = .ok (.getfield 18, 3) := by decide +kernel
theorem dP_roomOf_4 : decode b_P_roomOf 4 = .ok (.iload_n 1, 1) := by decide +kernel
theorem dP_roomOf_5 : decode b_P_roomOf 5 = .ok (.iload_n 2, 1) := by decide +kernel
theorem dP_roomOf_6 : decode b_P_roomOf 6 = .ok (.invokevirtual 102, 3) := by decide +kernel
theorem dP_roomOf_9 : decode b_P_roomOf 9 = .ok (.ifCond .eq 16, 3) := by decide +kernel
theorem dP_roomOf_12 : decode b_P_roomOf 12 = .ok (.aload_n 0, 1) := by decide +kernel
theorem dP_roomOf_13 : decode b_P_roomOf 13 = .ok (.getfield 18, 3) := by decide +kernel
theorem dP_roomOf_16 : decode b_P_roomOf 16 = .ok (.iload_n 3, 1) := by decide +kernel
theorem dP_roomOf_17 : decode b_P_roomOf 17 = .ok (.iload 4, 2) := by decide +kernel
theorem dP_roomOf_19 : decode b_P_roomOf 19 = .ok (.invokevirtual 102, 3) := by decide +kernel
theorem dP_roomOf_22 : decode b_P_roomOf 22 = .ok (.ifCond .ne 13, 3) := by decide +kernel
theorem dP_roomOf_25 : decode b_P_roomOf 25 = .ok (.new 70, 3) := by decide +kernel
theorem dP_roomOf_28 : decode b_P_roomOf 28 = .ok (.dup, 1) := by decide +kernel
theorem dP_roomOf_29 : decode b_P_roomOf 29 = .ok (.ldc 106, 2) := by decide +kernel
theorem dP_roomOf_31 : decode b_P_roomOf 31 = .ok (.invokespecial 74, 3) := by decide +kernel
theorem dP_roomOf_34 : decode b_P_roomOf 34 = .ok (.athrow, 1) := by decide +kernel
theorem dP_roomOf_35 : decode b_P_roomOf 35 = .ok (.aload_n 0, 1) := by decide +kernel
theorem dP_roomOf_36 : decode b_P_roomOf 36 = .ok (.getfield 27, 3) := by decide +kernel
theorem dP_roomOf_39 : decode b_P_roomOf 39 = .ok (.iload_n 1, 1) := by decide +kernel
theorem dP_roomOf_40 : decode b_P_roomOf 40 = .ok (.iload_n 2, 1) := by decide +kernel
theorem dP_roomOf_41 : decode b_P_roomOf 41 = .ok (.iload_n 3, 1) := by decide +kernel
theorem dP_roomOf_42 : decode b_P_roomOf 42 = .ok (.iload 4, 2) := by decide +kernel
theorem dP_roomOf_44 : decode b_P_roomOf 44 = .ok (.invokevirtual 108, 3) := by decide +kernel
theorem dP_roomOf_47 : decode b_P_roomOf 47 = .ok (.ireturn, 1) := by decide +kernel
theorem dP_peel_0 : decode b_P_peel 0 = .ok (.iload_n 1, 1) := by decide +kernel
theorem dP_peel_1 : decode b_P_peel 1 = .ok (.iconst 1, 1) := by decide +kernel
theorem dP_peel_2 : decode b_P_peel 2 = .ok (.sipush 1000, 3) := by decide +kernel
theorem dP_peel_5 : decode b_P_peel 5 = .ok (.invokestatic 90, 3) := by decide +kernel
theorem dP_peel_8 : decode b_P_peel 8 = .ok (.ifCond .eq 14, 3) := by decide +kernel
theorem dP_peel_11 : decode b_P_peel 11 = .ok (.iload_n 2, 1) := by decide +kernel
theorem dP_peel_12 : decode b_P_peel 12 = .ok (.iconst 0, 1) := by decide +kernel
theorem dP_peel_13 : decode b_P_peel 13 = .ok (.sipush 1000, 3) := by decide +kernel
theorem dP_peel_16 : decode b_P_peel 16 = .ok (.invokestatic 90, 3) := by decide +kernel
theorem dP_peel_19 : decode b_P_peel 19 = .ok (.ifCond .ne 13, 3) := by decide +kernel
theorem dP_peel_22 : decode b_P_peel 22 = .ok (.new 112, 3) := by decide +kernel
theorem dP_peel_25 : decode b_P_peel 25 = .ok (.dup, 1) := by decide +kernel
theorem dP_peel_26 : decode b_P_peel 26 = .ok (.ldc 114, 2) := by decide +kernel
theorem dP_peel_28 : decode b_P_peel 28 = .ok (.invokespecial 116, 3) := by decide +kernel
theorem dP_peel_31 : decode b_P_peel 31 = .ok (.athrow, 1) := by decide +kernel
theorem dP_peel_32 : decode b_P_peel 32 = .ok (.aload_n 0, 1) := by decide +kernel
theorem dP_peel_33 : decode b_P_peel 33 = .ok (.getfield 34, 3) := by decide +kernel
theorem dP_peel_36 : decode b_P_peel 36 = .ok (.aload_n 0, 1) := by decide +kernel
theorem dP_peel_37 : decode b_P_peel 37 = .ok (.getfield 27, 3) := by decide +kernel
theorem dP_peel_40 : decode b_P_peel 40 = .ok (.invokevirtual 99, 3) := by decide +kernel
theorem dP_peel_43 : decode b_P_peel 43 = .ok (.iload_n 1, 1) := by decide +kernel
theorem dP_peel_44 : decode b_P_peel 44 = .ok (.iload_n 2, 1) := by decide +kernel
theorem dP_peel_45 : decode b_P_peel 45 = .ok (.invokevirtual 117, 3) := by decide +kernel
theorem dP_peel_48 : decode b_P_peel 48 = .ok (.aload_n 0, 1) := by decide +kernel
theorem dP_peel_49 : decode b_P_peel 49 = .ok (.getfield 55, 3) := by decide +kernel
theorem dP_peel_52 : decode b_P_peel 52 = .ok (.invokevirtual 85, 3) := by decide +kernel
theorem dP_peel_55 : decode b_P_peel 55 = .ok (.aload_n 0, 1) := by decide +kernel
theorem dP_peel_56 : decode b_P_peel 56 = .ok (.getfield 34, 3) := by decide +kernel
theorem dP_peel_59 : decode b_P_peel 59 = .ok (.invokevirtual 121, 3) := by decide +kernel
theorem dP_peel_62 : decode b_P_peel 62 = .ok (.ireturn, 1) := by decide +kernel
theorem dP_before_0 : decode b_P_before 0 = .ok (.aload_n 0, 1) := by decide +kernel
theorem dP_before_1 : decode b_P_before 1 = .ok (.getfield 34, 3) := by decide +kernel
theorem dP_before_4 : decode b_P_before 4 = .ok (.invokevirtual 124, 3) := by decide +kernel
theorem dP_before_7 : decode b_P_before 7 = .ok (.ifCond .ne 13, 3) := by decide +kernel
theorem dP_before_10 : decode b_P_before 10 = .ok (.new 128, 3) := by decide +kernel
theorem dP_before_13 : decode b_P_before 13 = .ok (.dup, 1) := by decide +kernel
theorem dP_before_14 : decode b_P_before 14 = .ok (.ldc 130, 2) := by decide +kernel
theorem dP_before_16 : decode b_P_before 16 = .ok (.invokespecial 132, 3) := by decide +kernel
theorem dP_before_19 : decode b_P_before 19 = .ok (.athrow, 1) := by decide +kernel
theorem dP_before_20 : decode b_P_before 20 = .ok (.iload_n 1, 1) := by decide +kernel
theorem dP_before_21 : decode b_P_before 21 = .ok (.iconst 0, 1) := by decide +kernel
theorem dP_before_22 : decode b_P_before 22 = .ok (.aload_n 0, 1) := by decide +kernel
theorem dP_before_23 : decode b_P_before 23 = .ok (.getfield 34, 3) := by decide +kernel
theorem dP_before_26 : decode b_P_before 26 = .ok (.invokevirtual 121, 3) := by decide +kernel
theorem dP_before_29 : decode b_P_before 29 = .ok (.invokestatic 90, 3) := by decide +kernel
theorem dP_before_32 : decode b_P_before 32 = .ok (.ifCond .ne 13, 3) := by decide +kernel
theorem dP_before_35 : decode b_P_before 35 = .ok (.new 70, 3) := by decide +kernel
theorem dP_before_38 : decode b_P_before 38 = .ok (.dup, 1) := by decide +kernel
theorem dP_before_39 : decode b_P_before 39 = .ok (.ldc 133, 2) := by decide +kernel
theorem dP_before_41 : decode b_P_before 41 = .ok (.invokespecial 74, 3) := by decide +kernel
theorem dP_before_44 : decode b_P_before 44 = .ok (.athrow, 1) := by decide +kernel
theorem dP_before_45 : decode b_P_before 45 = .ok (.aload_n 0, 1) := by decide +kernel
theorem dP_before_46 : decode b_P_before 46 = .ok (.getfield 34, 3) := by decide +kernel
theorem dP_before_49 : decode b_P_before 49 = .ok (.iload_n 1, 1) := by decide +kernel
theorem dP_before_50 : decode b_P_before 50 = .ok (.invokevirtual 135, 3) := by decide +kernel
theorem dP_before_53 : decode b_P_before 53 = .ok (.ireturn, 1) := by decide +kernel
theorem dP_fault_0 : decode b_P_fault 0 = .ok (.iload_n 1, 1) := by decide +kernel
theorem dP_fault_1 : decode b_P_fault 1 = .ok (.iconst 0, 1) := by decide +kernel
theorem dP_fault_2 : decode b_P_fault 2 = .ok (.sipush 359, 3) := by decide +kernel
theorem dP_fault_5 : decode b_P_fault 5 = .ok (.invokestatic 90, 3) := by decide +kernel
theorem dP_fault_8 : decode b_P_fault 8 = .ok (.ifCond .eq 21, 3) := by decide +kernel
theorem dP_fault_11 : decode b_P_fault 11 = .ok (.iload_n 2, 1) := by decide +kernel
theorem dP_fault_12 : decode b_P_fault 12 = .ok (.iconst 0, 1) := by decide +kernel
theorem dP_fault_13 : decode b_P_fault 13 = .ok (.sipush 1000, 3) := by decide +kernel
theorem dP_fault_16 : decode b_P_fault 16 = .ok (.invokestatic 90, 3) := by decide +kernel
theorem dP_fault_19 : decode b_P_fault 19 = .ok (.ifCond .eq 10, 3) := by decide +kernel
theorem dP_fault_22 : decode b_P_fault 22 = .ok (.iload_n 3, 1) := by decide +kernel
theorem dP_fault_23 : decode b_P_fault 23 = .ok (.invokestatic 138, 3) := by decide +kernel
theorem dP_fault_26 : decode b_P_fault 26 = .ok (.ifCond .ne 13, 3) := by decide +kernel
theorem dP_fault_29 : decode b_P_fault 29 = .ok (.new 112, 3) := by decide +kernel
theorem dP_fault_32 : decode b_P_fault 32 = .ok (.dup, 1) := by decide +kernel
theorem dP_fault_33 : decode b_P_fault 33 = .ok (.ldc 142, 2) := by decide +kernel
theorem dP_fault_35 : decode b_P_fault 35 = .ok (.invokespecial 116, 3) := by decide +kernel
theorem dP_fault_38 : decode b_P_fault 38 = .ok (.athrow, 1) := by decide +kernel
theorem dP_fault_39 : decode b_P_fault 39 = .ok (.aload_n 0, 1) := by decide +kernel
theorem dP_fault_40 : decode b_P_fault 40 = .ok (.getfield 41, 3) := by decide +kernel
theorem dP_fault_43 : decode b_P_fault 43 = .ok (.invokevirtual 144, 3) := by decide +kernel
theorem dP_fault_46 : decode b_P_fault 46 = .ok (.ifCond .eq 13, 3) := by decide +kernel
theorem dP_fault_49 : decode b_P_fault 49 = .ok (.new 128, 3) := by decide +kernel
theorem dP_fault_52 : decode b_P_fault 52 = .ok (.dup, 1) := by decide +kernel
theorem dP_fault_53 : decode b_P_fault 53 = .ok (.ldc 147, 2) := by decide +kernel
theorem dP_fault_55 : decode b_P_fault 55 = .ok (.invokespecial 132, 3) := by decide +kernel
theorem dP_fault_58 : decode b_P_fault 58 = .ok (.athrow, 1) := by decide +kernel
theorem dP_fault_59 : decode b_P_fault 59 = .ok (.aload_n 0, 1) := by decide +kernel
theorem dP_fault_60 : decode b_P_fault 60 = .ok (.getfield 55, 3) := by decide +kernel
theorem dP_fault_63 : decode b_P_fault 63 = .ok (.invokevirtual 85, 3) := by decide +kernel
theorem dP_fault_66 : decode b_P_fault 66 = .ok (.aload_n 0, 1) := by decide +kernel
theorem dP_fault_67 : decode b_P_fault 67 = .ok (.getfield 41, 3) := by decide +kernel
theorem dP_fault_70 : decode b_P_fault 70 = .ok (.iload_n 1, 1) := by decide +kernel
theorem dP_fault_71 : decode b_P_fault 71 = .ok (.iload_n 2, 1) := by decide +kernel
theorem dP_fault_72 : decode b_P_fault 72 = .ok (.iload_n 3, 1) := by decide +kernel
theorem dP_fault_73 : decode b_P_fault 73 = .ok (.invokevirtual 149, 3) := by decide +kernel
theorem dP_fault_76 : decode b_P_fault 76 = .ok (.ireturn, 1) := by decide +kernel
theorem dP_unrolled_0 : decode b_P_unrolled 0 = .ok (.aload_n 0, 1) := by decide +kernel
theorem dP_unrolled_1 : decode b_P_unrolled 1 = .ok (.getfield 41, 3) := by decide +kernel
theorem dP_unrolled_4 : decode b_P_unrolled 4 = .ok (.iload_n 1, 1) := by decide +kernel
theorem dP_unrolled_5 : decode b_P_unrolled 5 = .ok (.invokevirtual 152, 3) := by decide +kernel
theorem dP_unrolled_8 : decode b_P_unrolled 8 = .ok (.ifCond .ne 13, 3) := by decide +kernel
theorem dP_unrolled_11 : decode b_P_unrolled 11 = .ok (.new 70, 3) := by decide +kernel
theorem dP_unrolled_14 : decode b_P_unrolled 14 = .ok (.dup, 1) := by decide +kernel
theorem dP_unrolled_15 : decode b_P_unrolled 15 = .ok (.ldc 155, 2) := by decide +kernel
theorem dP_unrolled_17 : decode b_P_unrolled 17 = .ok (.invokespecial 74, 3) := by decide +kernel
theorem dP_unrolled_20 : decode b_P_unrolled 20 = .ok (.athrow, 1) := by decide +kernel
theorem dP_unrolled_21 : decode b_P_unrolled 21 = .ok (.aload_n 0, 1) := by decide +kernel
theorem dP_unrolled_22 : decode b_P_unrolled 22 = .ok (.getfield 34, 3) := by decide +kernel
theorem dP_unrolled_25 : decode b_P_unrolled 25 = .ok (.invokevirtual 124, 3) := by decide +kernel
theorem dP_unrolled_28 : decode b_P_unrolled 28 = .ok (.ifCond .ne 13, 3) := by decide +kernel
theorem dP_unrolled_31 : decode b_P_unrolled 31 = .ok (.new 128, 3) := by decide +kernel
theorem dP_unrolled_34 : decode b_P_unrolled 34 = .ok (.dup, 1) := by decide +kernel
theorem dP_unrolled_35 : decode b_P_unrolled 35 = .ok (.ldc 130, 2) := by decide +kernel
theorem dP_unrolled_37 : decode b_P_unrolled 37 = .ok (.invokespecial 132, 3) := by decide +kernel
theorem dP_unrolled_40 : decode b_P_unrolled 40 = .ok (.athrow, 1) := by decide +kernel
theorem dP_unrolled_41 : decode b_P_unrolled 41 = .ok (.aload_n 0, 1) := by decide +kernel
theorem dP_unrolled_42 : decode b_P_unrolled 42 = .ok (.getfield 41, 3) := by decide +kernel
theorem dP_unrolled_45 : decode b_P_unrolled 45 = .ok (.aload_n 0, 1) := by decide +kernel
theorem dP_unrolled_46 : decode b_P_unrolled 46 = .ok (.getfield 34, 3) := by decide +kernel
theorem dP_unrolled_49 : decode b_P_unrolled 49 = .ok (.iload_n 1, 1) := by decide +kernel
theorem dP_unrolled_50 : decode b_P_unrolled 50 = .ok (.invokevirtual 157, 3) := by decide +kernel
theorem dP_unrolled_53 : decode b_P_unrolled 53 = .ok (.ireturn, 1) := by decide +kernel
theorem dP_leaf_0 : decode b_P_leaf 0 = .ok (.iload_n 1, 1) := by decide +kernel
theorem dP_leaf_1 : decode b_P_leaf 1 = .ok (.iconst 1, 1) := by decide +kernel
theorem dP_leaf_2 : decode b_P_leaf 2 = .ok (.sipush 500, 3) := by decide +kernel
theorem dP_leaf_5 : decode b_P_leaf 5 = .ok (.invokestatic 90, 3) := by decide +kernel
theorem dP_leaf_8 : decode b_P_leaf 8 = .ok (.ifCond .eq 13, 3) := by decide +kernel
theorem dP_leaf_11 : decode b_P_leaf 11 = .ok (.iload_n 2, 1) := by decide +kernel
theorem dP_leaf_12 : decode b_P_leaf 12 = .ok (.iconst 0, 1) := by decide +kernel
theorem dP_leaf_13 : decode b_P_leaf 13 = .ok (.ldc 161, 2) := by decide +kernel
theorem dP_leaf_15 : decode b_P_leaf 15 = .ok (.invokestatic 90, 3) := by decide +kernel
theorem dP_leaf_18 : decode b_P_leaf 18 = .ok (.ifCond .ne 13, 3) := by decide +kernel
theorem dP_leaf_21 : decode b_P_leaf 21 = .ok (.new 112, 3) := by decide +kernel
theorem dP_leaf_24 : decode b_P_leaf 24 = .ok (.dup, 1) := by decide +kernel
theorem dP_leaf_25 : decode b_P_leaf 25 = .ok (.ldc 162, 2) := by decide +kernel
theorem dP_leaf_27 : decode b_P_leaf 27 = .ok (.invokespecial 116, 3) := by decide +kernel
theorem dP_leaf_30 : decode b_P_leaf 30 = .ok (.athrow, 1) := by decide +kernel
theorem dP_leaf_31 : decode b_P_leaf 31 = .ok (.aload_n 0, 1) := by decide +kernel
theorem dP_leaf_32 : decode b_P_leaf 32 = .ok (.getfield 48, 3) := by decide +kernel
theorem dP_leaf_35 : decode b_P_leaf 35 = .ok (.invokevirtual 164, 3) := by decide +kernel
theorem dP_leaf_38 : decode b_P_leaf 38 = .ok (.ifCond .eq 13, 3) := by decide +kernel
theorem dP_leaf_41 : decode b_P_leaf 41 = .ok (.new 128, 3) := by decide +kernel
theorem dP_leaf_44 : decode b_P_leaf 44 = .ok (.dup, 1) := by decide +kernel
theorem dP_leaf_45 : decode b_P_leaf 45 = .ok (.ldc 165, 2) := by decide +kernel
theorem dP_leaf_47 : decode b_P_leaf 47 = .ok (.invokespecial 132, 3) := by decide +kernel
theorem dP_leaf_50 : decode b_P_leaf 50 = .ok (.athrow, 1) := by decide +kernel
theorem dP_leaf_51 : decode b_P_leaf 51 = .ok (.aload_n 0, 1) := by decide +kernel
theorem dP_leaf_52 : decode b_P_leaf 52 = .ok (.getfield 55, 3) := by decide +kernel
theorem dP_leaf_55 : decode b_P_leaf 55 = .ok (.invokevirtual 85, 3) := by decide +kernel
theorem dP_leaf_58 : decode b_P_leaf 58 = .ok (.aload_n 0, 1) := by decide +kernel
theorem dP_leaf_59 : decode b_P_leaf 59 = .ok (.getfield 48, 3) := by decide +kernel
theorem dP_leaf_62 : decode b_P_leaf 62 = .ok (.iload_n 1, 1) := by decide +kernel
theorem dP_leaf_63 : decode b_P_leaf 63 = .ok (.iload_n 2, 1) := by decide +kernel
theorem dP_leaf_64 : decode b_P_leaf 64 = .ok (.invokevirtual 167, 3) := by decide +kernel
theorem dP_leaf_67 : decode b_P_leaf 67 = .ok (.ireturn, 1) := by decide +kernel
theorem dP_bars_0 : decode b_P_bars 0 = .ok (.aload_n 0, 1) := by decide +kernel
theorem dP_bars_1 : decode b_P_bars 1 = .ok (.getfield 48, 3) := by decide +kernel
theorem dP_bars_4 : decode b_P_bars 4 = .ok (.iload_n 1, 1) := by decide +kernel
theorem dP_bars_5 : decode b_P_bars 5 = .ok (.invokevirtual 170, 3) := by decide +kernel
theorem dP_bars_8 : decode b_P_bars 8 = .ok (.ifCond .eq 10, 3) := by decide +kernel
theorem dP_bars_11 : decode b_P_bars 11 = .ok (.iload_n 2, 1) := by decide +kernel
theorem dP_bars_12 : decode b_P_bars 12 = .ok (.invokestatic 138, 3) := by decide +kernel
theorem dP_bars_15 : decode b_P_bars 15 = .ok (.ifCond .ne 13, 3) := by decide +kernel
theorem dP_bars_18 : decode b_P_bars 18 = .ok (.new 70, 3) := by decide +kernel
theorem dP_bars_21 : decode b_P_bars 21 = .ok (.dup, 1) := by decide +kernel
theorem dP_bars_22 : decode b_P_bars 22 = .ok (.ldc 171, 2) := by decide +kernel
theorem dP_bars_24 : decode b_P_bars 24 = .ok (.invokespecial 74, 3) := by decide +kernel
theorem dP_bars_27 : decode b_P_bars 27 = .ok (.athrow, 1) := by decide +kernel
theorem dP_bars_28 : decode b_P_bars 28 = .ok (.aload_n 0, 1) := by decide +kernel
theorem dP_bars_29 : decode b_P_bars 29 = .ok (.getfield 48, 3) := by decide +kernel
theorem dP_bars_32 : decode b_P_bars 32 = .ok (.iload_n 1, 1) := by decide +kernel
theorem dP_bars_33 : decode b_P_bars 33 = .ok (.iload_n 2, 1) := by decide +kernel
theorem dP_bars_34 : decode b_P_bars 34 = .ok (.iload_n 3, 1) := by decide +kernel
theorem dP_bars_35 : decode b_P_bars 35 = .ok (.invokevirtual 173, 3) := by decide +kernel
theorem dP_bars_38 : decode b_P_bars 38 = .ok (.istore 4, 2) := by decide +kernel
theorem dP_bars_40 : decode b_P_bars 40 = .ok (.iload 4, 2) := by decide +kernel
theorem dP_bars_42 : decode b_P_bars 42 = .ok (.ifCond .eq 10, 3) := by decide +kernel
theorem dP_bars_45 : decode b_P_bars 45 = .ok (.aload_n 0, 1) := by decide +kernel
theorem dP_bars_46 : decode b_P_bars 46 = .ok (.getfield 55, 3) := by decide +kernel
theorem dP_bars_49 : decode b_P_bars 49 = .ok (.invokevirtual 85, 3) := by decide +kernel
theorem dP_bars_52 : decode b_P_bars 52 = .ok (.iload 4, 2) := by decide +kernel
theorem dP_bars_54 : decode b_P_bars 54 = .ok (.ireturn, 1) := by decide +kernel
theorem dP_clip_0 : decode b_P_clip 0 = .ok (.iload_n 1, 1) := by decide +kernel
theorem dP_clip_1 : decode b_P_clip 1 = .ok (.iconst 1, 1) := by decide +kernel
theorem dP_clip_2 : decode b_P_clip 2 = .ok (.sipush 1000, 3) := by decide +kernel
theorem dP_clip_5 : decode b_P_clip 5 = .ok (.invokestatic 90, 3) := by decide +kernel
theorem dP_clip_8 : decode b_P_clip 8 = .ok (.ifCond .ne 13, 3) := by decide +kernel
theorem dP_clip_11 : decode b_P_clip 11 = .ok (.new 112, 3) := by decide +kernel
theorem dP_clip_14 : decode b_P_clip 14 = .ok (.dup, 1) := by decide +kernel
theorem dP_clip_15 : decode b_P_clip 15 = .ok (.ldc 177, 2) := by decide +kernel
theorem dP_clip_17 : decode b_P_clip 17 = .ok (.invokespecial 116, 3) := by decide +kernel
theorem dP_clip_20 : decode b_P_clip 20 = .ok (.athrow, 1) := by decide +kernel
theorem dP_clip_21 : decode b_P_clip 21 = .ok (.aload_n 0, 1) := by decide +kernel
theorem dP_clip_22 : decode b_P_clip 22 = .ok (.getfield 34, 3) := by decide +kernel
theorem dP_clip_25 : decode b_P_clip 25 = .ok (.invokevirtual 124, 3) := by decide +kernel
theorem dP_clip_28 : decode b_P_clip 28 = .ok (.ifCond .ne 13, 3) := by decide +kernel
theorem dP_clip_31 : decode b_P_clip 31 = .ok (.new 128, 3) := by decide +kernel
theorem dP_clip_34 : decode b_P_clip 34 = .ok (.dup, 1) := by decide +kernel
theorem dP_clip_35 : decode b_P_clip 35 = .ok (.ldc 130, 2) := by decide +kernel
theorem dP_clip_37 : decode b_P_clip 37 = .ok (.invokespecial 132, 3) := by decide +kernel
theorem dP_clip_40 : decode b_P_clip 40 = .ok (.athrow, 1) := by decide +kernel
theorem dP_clip_41 : decode b_P_clip 41 = .ok (.aload_n 0, 1) := by decide +kernel
theorem dP_clip_42 : decode b_P_clip 42 = .ok (.getfield 55, 3) := by decide +kernel
theorem dP_clip_45 : decode b_P_clip 45 = .ok (.aload_n 0, 1) := by decide +kernel
theorem dP_clip_46 : decode b_P_clip 46 = .ok (.getfield 34, 3) := by decide +kernel
theorem dP_clip_49 : decode b_P_clip 49 = .ok (.aload_n 0, 1) := by decide +kernel
theorem dP_clip_50 : decode b_P_clip 50 = .ok (.getfield 41, 3) := by decide +kernel
theorem dP_clip_53 : decode b_P_clip 53 = .ok (.aload_n 0, 1) := by decide +kernel
theorem dP_clip_54 : decode b_P_clip 54 = .ok (.getfield 48, 3) := by decide +kernel
theorem dP_clip_57 : decode b_P_clip 57 = .ok (.iload_n 1, 1) := by decide +kernel
theorem dP_clip_58 : decode b_P_clip 58 = .ok (.invokevirtual 179, 3) := by decide +kernel
theorem dP_clip_61 : decode b_P_clip 61 = .ok (.aload_n 0, 1) := by decide +kernel
theorem dP_clip_62 : decode b_P_clip 62 = .ok (.getfield 55, 3) := by decide +kernel
theorem dP_clip_65 : decode b_P_clip 65 = .ok (.invokevirtual 183, 3) := by decide +kernel
theorem dP_clip_68 : decode b_P_clip 68 = .ok (.ireturn, 1) := by decide +kernel
theorem dP_at_0 : decode b_P_at 0 = .ok (.aload_n 0, 1) := by decide +kernel
theorem dP_at_1 : decode b_P_at 1 = .ok (.getfield 55, 3) := by decide +kernel
theorem dP_at_4 : decode b_P_at 4 = .ok (.invokevirtual 186, 3) := by decide +kernel
theorem dP_at_7 : decode b_P_at 7 = .ok (.ifCond .ne 13, 3) := by decide +kernel
theorem dP_at_10 : decode b_P_at 10 = .ok (.new 128, 3) := by decide +kernel
theorem dP_at_13 : decode b_P_at 13 = .ok (.dup, 1) := by decide +kernel
theorem dP_at_14 : decode b_P_at 14 = .ok (.ldc 189, 2) := by decide +kernel
theorem dP_at_16 : decode b_P_at 16 = .ok (.invokespecial 132, 3) := by decide +kernel
theorem dP_at_19 : decode b_P_at 19 = .ok (.athrow, 1) := by decide +kernel
theorem dP_at_20 : decode b_P_at 20 = .ok (.iload_n 1, 1) := by decide +kernel
theorem dP_at_21 : decode b_P_at 21 = .ok (.iconst 0, 1) := by decide +kernel
theorem dP_at_22 : decode b_P_at 22 = .ok (.aload_n 0, 1) := by decide +kernel
theorem dP_at_23 : decode b_P_at 23 = .ok (.getfield 55, 3) := by decide +kernel
theorem dP_at_26 : decode b_P_at 26 = .ok (.invokevirtual 183, 3) := by decide +kernel
theorem dP_at_29 : decode b_P_at 29 = .ok (.iconst 1, 1) := by decide +kernel
theorem dP_at_30 : decode b_P_at 30 = .ok (.isub, 1) := by decide +kernel
theorem dP_at_31 : decode b_P_at 31 = .ok (.invokestatic 90, 3) := by decide +kernel
theorem dP_at_34 : decode b_P_at 34 = .ok (.ifCond .eq 12, 3) := by decide +kernel
theorem dP_at_37 : decode b_P_at 37 = .ok (.iload_n 2, 1) := by decide +kernel
theorem dP_at_38 : decode b_P_at 38 = .ok (.iconst 0, 1) := by decide +kernel
theorem dP_at_39 : decode b_P_at 39 = .ok (.iconst 1, 1) := by decide +kernel
theorem dP_at_40 : decode b_P_at 40 = .ok (.invokestatic 90, 3) := by decide +kernel
theorem dP_at_43 : decode b_P_at 43 = .ok (.ifCond .ne 13, 3) := by decide +kernel
theorem dP_at_46 : decode b_P_at 46 = .ok (.new 70, 3) := by decide +kernel
theorem dP_at_49 : decode b_P_at 49 = .ok (.dup, 1) := by decide +kernel
theorem dP_at_50 : decode b_P_at 50 = .ok (.ldc 191, 2) := by decide +kernel
theorem dP_at_52 : decode b_P_at 52 = .ok (.invokespecial 74, 3) := by decide +kernel
theorem dP_at_55 : decode b_P_at 55 = .ok (.athrow, 1) := by decide +kernel
theorem dP_at_56 : decode b_P_at 56 = .ok (.iload_n 2, 1) := by decide +kernel
theorem dP_at_57 : decode b_P_at 57 = .ok (.ifCond .ne 14, 3) := by decide +kernel
theorem dP_at_60 : decode b_P_at 60 = .ok (.aload_n 0, 1) := by decide +kernel
theorem dP_at_61 : decode b_P_at 61 = .ok (.getfield 55, 3) := by decide +kernel
theorem dP_at_64 : decode b_P_at 64 = .ok (.iload_n 1, 1) := by decide +kernel
theorem dP_at_65 : decode b_P_at 65 = .ok (.invokevirtual 193, 3) := by decide +kernel
theorem dP_at_68 : decode b_P_at 68 = .ok (.goto 11, 3) := by decide +kernel
theorem dP_at_71 : decode b_P_at 71 = .ok (.aload_n 0, 1) := by decide +kernel
theorem dP_at_72 : decode b_P_at 72 = .ok (.getfield 55, 3) := by decide +kernel
theorem dP_at_75 : decode b_P_at 75 = .ok (.iload_n 1, 1) := by decide +kernel
theorem dP_at_76 : decode b_P_at 76 = .ok (.invokevirtual 196, 3) := by decide +kernel
theorem dP_at_79 : decode b_P_at 79 = .ok (.ireturn, 1) := by decide +kernel
theorem dP_clipped_0 : decode b_P_clipped 0 = .ok (.aload_n 0, 1) := by decide +kernel
theorem dP_clipped_1 : decode b_P_clipped 1 = .ok (.getfield 55, 3) := by decide +kernel
theorem dP_clipped_4 : decode b_P_clipped 4 = .ok (.invokevirtual 186, 3) := by decide +kernel
theorem dP_clipped_7 : decode b_P_clipped 7 = .ok (.ifCond .ne 13, 3) := by decide +kernel
theorem dP_clipped_10 : decode b_P_clipped 10 = .ok (.new 128, 3) := by decide +kernel
theorem dP_clipped_13 : decode b_P_clipped 13 = .ok (.dup, 1) := by decide +kernel
theorem dP_clipped_14 : decode b_P_clipped 14 = .ok (.ldc 189, 2) := by decide +kernel
theorem dP_clipped_16 : decode b_P_clipped 16 = .ok (.invokespecial 132, 3) := by decide +kernel
theorem dP_clipped_19 : decode b_P_clipped 19 = .ok (.athrow, 1) := by decide +kernel
theorem dP_clipped_20 : decode b_P_clipped 20 = .ok (.iload_n 1, 1) := by decide +kernel
theorem dP_clipped_21 : decode b_P_clipped 21 = .ok (.iconst 0, 1) := by decide +kernel
theorem dP_clipped_22 : decode b_P_clipped 22 = .ok (.iconst 2, 1) := by decide +kernel
theorem dP_clipped_23 : decode b_P_clipped 23 = .ok (.invokestatic 90, 3) := by decide +kernel
theorem dP_clipped_26 : decode b_P_clipped 26 = .ok (.ifCond .ne 13, 3) := by decide +kernel
theorem dP_clipped_29 : decode b_P_clipped 29 = .ok (.new 70, 3) := by decide +kernel
theorem dP_clipped_32 : decode b_P_clipped 32 = .ok (.dup, 1) := by decide +kernel
theorem dP_clipped_33 : decode b_P_clipped 33 = .ok (.ldc 199, 2) := by decide +kernel
theorem dP_clipped_35 : decode b_P_clipped 35 = .ok (.invokespecial 74, 3) := by decide +kernel
theorem dP_clipped_38 : decode b_P_clipped 38 = .ok (.athrow, 1) := by decide +kernel
theorem dP_clipped_39 : decode b_P_clipped 39 = .ok (.iload_n 1, 1) := by decide +kernel
theorem dP_clipped_40 : decode b_P_clipped 40 = .ok (.ifCond .ne 13, 3) := by decide +kernel
theorem dP_clipped_43 : decode b_P_clipped 43 = .ok (.aload_n 0, 1) := by decide +kernel
theorem dP_clipped_44 : decode b_P_clipped 44 = .ok (.getfield 55, 3) := by decide +kernel
theorem dP_clipped_47 : decode b_P_clipped 47 = .ok (.invokevirtual 201, 3) := by decide +kernel
theorem dP_clipped_50 : decode b_P_clipped 50 = .ok (.goto 25, 3) := by decide +kernel
theorem dP_clipped_53 : decode b_P_clipped 53 = .ok (.iload_n 1, 1) := by decide +kernel
theorem dP_clipped_54 : decode b_P_clipped 54 = .ok (.iconst 1, 1) := by decide +kernel
theorem dP_clipped_55 : decode b_P_clipped 55 = .ok (.if_icmp .ne 13, 3) := by decide +kernel
theorem dP_clipped_58 : decode b_P_clipped 58 = .ok (.aload_n 0, 1) := by decide +kernel
theorem dP_clipped_59 : decode b_P_clipped 59 = .ok (.getfield 55, 3) := by decide +kernel
theorem dP_clipped_62 : decode b_P_clipped 62 = .ok (.invokevirtual 204, 3) := by decide +kernel
theorem dP_clipped_65 : decode b_P_clipped 65 = .ok (.goto 10, 3) := by decide +kernel
theorem dP_clipped_68 : decode b_P_clipped 68 = .ok (.aload_n 0, 1) := by decide +kernel
theorem dP_clipped_69 : decode b_P_clipped 69 = .ok (.getfield 55, 3) := by decide +kernel
theorem dP_clipped_72 : decode b_P_clipped 72 = .ok (.invokevirtual 207, 3) := by decide +kernel
theorem dP_clipped_75 : decode b_P_clipped 75 = .ok (.ireturn, 1) := by decide +kernel
theorem dP_shrink_0 : decode b_P_shrink 0 = .ok (.aload_n 0, 1) := by decide +kernel
theorem dP_shrink_1 : decode b_P_shrink 1 = .ok (.getfield 48, 3) := by decide +kernel
theorem dP_shrink_4 : decode b_P_shrink 4 = .ok (.iload_n 1, 1) := by decide +kernel
theorem dP_shrink_5 : decode b_P_shrink 5 = .ok (.invokevirtual 170, 3) := by decide +kernel
theorem dP_shrink_8 : decode b_P_shrink 8 = .ok (.ifCond .ne 13, 3) := by decide +kernel
theorem dP_shrink_11 : decode b_P_shrink 11 = .ok (.new 70, 3) := by decide +kernel
theorem dP_shrink_14 : decode b_P_shrink 14 = .ok (.dup, 1) := by decide +kernel
theorem dP_shrink_15 : decode b_P_shrink 15 = .ok (.ldc 210, 2) := by decide +kernel
theorem dP_shrink_17 : decode b_P_shrink 17 = .ok (.invokespecial 74, 3) := by decide +kernel
theorem dP_shrink_20 : decode b_P_shrink 20 = .ok (.athrow, 1) := by decide +kernel
theorem dP_shrink_21 : decode b_P_shrink 21 = .ok (.iload_n 3, 1) := by decide +kernel
theorem dP_shrink_22 : decode b_P_shrink 22 = .ok (.iconst 1, 1) := by decide +kernel
theorem dP_shrink_23 : decode b_P_shrink 23 = .ok (.sipush 1000, 3) := by decide +kernel
theorem dP_shrink_26 : decode b_P_shrink 26 = .ok (.invokestatic 90, 3) := by decide +kernel
theorem dP_shrink_29 : decode b_P_shrink 29 = .ok (.ifCond .eq 12, 3) := by decide +kernel
theorem dP_shrink_32 : decode b_P_shrink 32 = .ok (.iload_n 2, 1) := by decide +kernel
theorem dP_shrink_33 : decode b_P_shrink 33 = .ok (.iconst 0, 1) := by decide +kernel
theorem dP_shrink_34 : decode b_P_shrink 34 = .ok (.iload_n 3, 1) := by decide +kernel
theorem dP_shrink_35 : decode b_P_shrink 35 = .ok (.invokestatic 90, 3) := by decide +kernel
theorem dP_shrink_38 : decode b_P_shrink 38 = .ok (.ifCond .ne 13, 3) := by decide +kernel
theorem dP_shrink_41 : decode b_P_shrink 41 = .ok (.new 112, 3) := by decide +kernel
theorem dP_shrink_44 : decode b_P_shrink 44 = .ok (.dup, 1) := by decide +kernel
theorem dP_shrink_45 : decode b_P_shrink 45 = .ok (.ldc 212, 2) := by decide +kernel
theorem dP_shrink_47 : decode b_P_shrink 47 = .ok (.invokespecial 116, 3) := by decide +kernel
theorem dP_shrink_50 : decode b_P_shrink 50 = .ok (.athrow, 1) := by decide +kernel
theorem dP_shrink_51 : decode b_P_shrink 51 = .ok (.aload_n 0, 1) := by decide +kernel
theorem dP_shrink_52 : decode b_P_shrink 52 = .ok (.getfield 48, 3) := by decide +kernel
theorem dP_shrink_55 : decode b_P_shrink 55 = .ok (.iload_n 1, 1) := by decide +kernel
theorem dP_shrink_56 : decode b_P_shrink 56 = .ok (.invokevirtual 214, 3) := by decide +kernel
theorem dP_shrink_59 : decode b_P_shrink 59 = .ok (.iload_n 2, 1) := by decide +kernel
theorem dP_shrink_60 : decode b_P_shrink 60 = .ok (.imul, 1) := by decide +kernel
theorem dP_shrink_61 : decode b_P_shrink 61 = .ok (.iload_n 3, 1) := by decide +kernel
theorem dP_shrink_62 : decode b_P_shrink 62 = .ok (.idiv, 1) := by decide +kernel
theorem dP_shrink_63 : decode b_P_shrink 63 = .ok (.ireturn, 1) := by decide +kernel
theorem dP_row_0 : decode b_P_row 0 = .ok (.iload_n 1, 1) := by decide +kernel
theorem dP_row_1 : decode b_P_row 1 = .ok (.iconst 0, 1) := by decide +kernel
theorem dP_row_2 : decode b_P_row 2 = .ok (.sipush 1000, 3) := by decide +kernel
theorem dP_row_5 : decode b_P_row 5 = .ok (.invokestatic 90, 3) := by decide +kernel
theorem dP_row_8 : decode b_P_row 8 = .ok (.ifCond .eq 25, 3) := by decide +kernel
theorem dP_row_11 : decode b_P_row 11 = .ok (.aload_n 0, 1) := by decide +kernel
theorem dP_row_12 : decode b_P_row 12 = .ok (.getfield 62, 3) := by decide +kernel
theorem dP_row_15 : decode b_P_row 15 = .ok (.iload_n 1, 1) := by decide +kernel
theorem dP_row_16 : decode b_P_row 16 = .ok (.invokevirtual 217, 3) := by decide +kernel
theorem dP_row_19 : decode b_P_row 19 = .ok (.ifCond .eq 14, 3) := by decide +kernel
theorem dP_row_22 : decode b_P_row 22 = .ok (.iload_n 2, 1) := by decide +kernel
theorem dP_row_23 : decode b_P_row 23 = .ok (.bipush (-100), 2) := by decide +kernel
theorem dP_row_25 : decode b_P_row 25 = .ok (.bipush 100, 2) := by decide +kernel
theorem dP_row_27 : decode b_P_row 27 = .ok (.invokestatic 90, 3) := by decide +kernel
theorem dP_row_30 : decode b_P_row 30 = .ok (.ifCond .ne 13, 3) := by decide +kernel
theorem dP_row_33 : decode b_P_row 33 = .ok (.new 112, 3) := by decide +kernel
theorem dP_row_36 : decode b_P_row 36 = .ok (.dup, 1) := by decide +kernel
theorem dP_row_37 : decode b_P_row 37 = .ok (.ldc 220, 2) := by decide +kernel
theorem dP_row_39 : decode b_P_row 39 = .ok (.invokespecial 116, 3) := by decide +kernel
theorem dP_row_42 : decode b_P_row 42 = .ok (.athrow, 1) := by decide +kernel
theorem dP_row_43 : decode b_P_row 43 = .ok (.aload_n 0, 1) := by decide +kernel
theorem dP_row_44 : decode b_P_row 44 = .ok (.getfield 62, 3) := by decide +kernel
theorem dP_row_47 : decode b_P_row 47 = .ok (.iload_n 1, 1) := by decide +kernel
theorem dP_row_48 : decode b_P_row 48 = .ok (.iload_n 2, 1) := by decide +kernel
theorem dP_row_49 : decode b_P_row 49 = .ok (.invokevirtual 222, 3) := by decide +kernel
theorem dP_row_52 : decode b_P_row 52 = .ok (.ireturn, 1) := by decide +kernel
theorem dP_knife_0 : decode b_P_knife 0 = .ok (.iload_n 1, 1) := by decide +kernel
theorem dP_knife_1 : decode b_P_knife 1 = .ok (.iconst 0, 1) := by decide +kernel
theorem dP_knife_2 : decode b_P_knife 2 = .ok (.sipush 1000, 3) := by decide +kernel
theorem dP_knife_5 : decode b_P_knife 5 = .ok (.invokestatic 90, 3) := by decide +kernel
theorem dP_knife_8 : decode b_P_knife 8 = .ok (.ifCond .ne 13, 3) := by decide +kernel
theorem dP_knife_11 : decode b_P_knife 11 = .ok (.new 112, 3) := by decide +kernel
theorem dP_knife_14 : decode b_P_knife 14 = .ok (.dup, 1) := by decide +kernel
theorem dP_knife_15 : decode b_P_knife 15 = .ok (.ldc 224, 2) := by decide +kernel
theorem dP_knife_17 : decode b_P_knife 17 = .ok (.invokespecial 116, 3) := by decide +kernel
theorem dP_knife_20 : decode b_P_knife 20 = .ok (.athrow, 1) := by decide +kernel
theorem dP_knife_21 : decode b_P_knife 21 = .ok (.aload_n 0, 1) := by decide +kernel
theorem dP_knife_22 : decode b_P_knife 22 = .ok (.getfield 62, 3) := by decide +kernel
theorem dP_knife_25 : decode b_P_knife 25 = .ok (.iload_n 1, 1) := by decide +kernel
theorem dP_knife_26 : decode b_P_knife 26 = .ok (.invokevirtual 226, 3) := by decide +kernel
theorem dP_knife_29 : decode b_P_knife 29 = .ok (.ireturn, 1) := by decide +kernel
theorem dP_nearestOf_0 : decode b_P_nearestOf 0 = .ok (.iload_n 1, 1) := by decide +kernel
theorem dP_nearestOf_1 : decode b_P_nearestOf 1 = .ok (.iload_n 2, 1) := by decide +kernel
theorem dP_nearestOf_2 : decode b_P_nearestOf 2 = .ok (.iload_n 0, 1) := by decide +kernel
theorem dP_nearestOf_3 : decode b_P_nearestOf 3 = .ok (.invokestatic 229, 3) := by decide +kernel
theorem dP_nearestOf_6 : decode b_P_nearestOf 6 = .ok (.invokestatic 234, 3) := by decide +kernel
theorem dP_nearestOf_9 : decode b_P_nearestOf 9 = .ok (.ireturn, 1) := by decide +kernel
theorem dP_isWithin_0 : decode b_P_isWithin 0 = .ok (.iload_n 0, 1) := by decide +kernel
theorem dP_isWithin_1 : decode b_P_isWithin 1 = .ok (.iload_n 1, 1) := by decide +kernel
theorem dP_isWithin_2 : decode b_P_isWithin 2 = .ok (.if_icmp .lt 12, 3) := by decide +kernel
theorem dP_isWithin_5 : decode b_P_isWithin 5 = .ok (.iload_n 0, 1) := by decide +kernel
theorem dP_isWithin_6 : decode b_P_isWithin 6 = .ok (.iload_n 2, 1) := by decide +kernel
theorem dP_isWithin_7 : decode b_P_isWithin 7 = .ok (.if_icmp .gt 7, 3) := by decide +kernel
theorem dP_isWithin_10 : decode b_P_isWithin 10 = .ok (.iconst 1, 1) := by decide +kernel
theorem dP_isWithin_11 : decode b_P_isWithin 11 = .ok (.goto 4, 3) := by decide +kernel
theorem dP_isWithin_14 : decode b_P_isWithin 14 = .ok (.iconst 0, 1) := by decide +kernel
theorem dP_isWithin_15 : decode b_P_isWithin 15 = .ok (.ireturn, 1) := by decide +kernel
theorem dP_isKind_0 : decode b_P_isKind 0 = .ok (.iload_n 0, 1) := by decide +kernel
theorem dP_isKind_1 : decode b_P_isKind 1 = .ok (.iconst 0, 1) := by decide +kernel
theorem dP_isKind_2 : decode b_P_isKind 2 = .ok (.iconst 3, 1) := by decide +kernel
theorem dP_isKind_3 : decode b_P_isKind 3 = .ok (.invokestatic 90, 3) := by decide +kernel
theorem dP_isKind_6 : decode b_P_isKind 6 = .ok (.ireturn, 1) := by decide +kernel
end
section
theorem dS_init_0 : decode b_S_init 0 = .ok (.aload_n 0, 1) := by decide +kernel
theorem dS_init_1 : decode b_S_init 1 = .ok (.invokespecial 1, 3) := by decide +kernel
theorem dS_init_4 : decode b_S_init 4 = .ok (.aload_n 0, 1) := by decide +kernel
theorem dS_init_5 : decode b_S_init 5 = .ok (.iload_n 1, 1) := by decide +kernel
theorem dS_init_6 : decode b_S_init 6 = .ok (.putfield 7, 3) := by decide +kernel
theorem dS_init_9 : decode b_S_init 9 = .ok (.aload_n 0, 1) := by decide +kernel
theorem dS_init_10 : decode b_S_init 10 = .ok (.iload_n 2, 1) := by decide +kernel
theorem dS_init_11 : decode b_S_init 11 = .ok (.putfield 13, 3) := by decide +kernel
theorem dS_init_14 : decode b_S_init 14 = .ok (.aload_n 0, 1) := by decide +kernel
theorem dS_init_15 : decode b_S_init 15 = .ok (.iconst 1, 1) := by decide +kernel
theorem dS_init_16 : decode b_S_init 16 = .ok (.iload_n 1, 1) := by decide +kernel
theorem dS_init_17 : decode b_S_init 17 = .ok (.iconst 1, 1) := by decide +kernel
theorem dS_init_18 : decode b_S_init 18 = .ok (.isub, 1) := by decide +kernel
theorem dS_init_19 : decode b_S_init 19 = .ok (.invokestatic 16, 3) := by decide +kernel
theorem dS_init_22 : decode b_S_init 22 = .ok (.putfield 22, 3) := by decide +kernel
theorem dS_init_25 : decode b_S_init 25 = .ok (.aload_n 0, 1) := by decide +kernel
theorem dS_init_26 : decode b_S_init 26 = .ok (.iload_n 2, 1) := by decide +kernel
theorem dS_init_27 : decode b_S_init 27 = .ok (.aload_n 0, 1) := by decide +kernel
theorem dS_init_28 : decode b_S_init 28 = .ok (.getfield 22, 3) := by decide +kernel
theorem dS_init_31 : decode b_S_init 31 = .ok (.imul, 1) := by decide +kernel
theorem dS_init_32 : decode b_S_init 32 = .ok (.iconst 1, 1) := by decide +kernel
theorem dS_init_33 : decode b_S_init 33 = .ok (.iadd, 1) := by decide +kernel
theorem dS_init_34 : decode b_S_init 34 = .ok (.putfield 25, 3) := by decide +kernel
theorem dS_init_37 : decode b_S_init 37 = .ok (.aload_n 0, 1) := by decide +kernel
theorem dS_init_38 : decode b_S_init 38 = .ok (.iload_n 1, 1) := by decide +kernel
theorem dS_init_39 : decode b_S_init 39 = .ok (.iload_n 2, 1) := by decide +kernel
theorem dS_init_40 : decode b_S_init 40 = .ok (.imul, 1) := by decide +kernel
theorem dS_init_41 : decode b_S_init 41 = .ok (.iload_n 2, 1) := by decide +kernel
theorem dS_init_42 : decode b_S_init 42 = .ok (.imul, 1) := by decide +kernel
theorem dS_init_43 : decode b_S_init 43 = .ok (.newarray .boolean, 2) := by decide +kernel
theorem dS_init_45 : decode b_S_init 45 = .ok (.putfield 28, 3) := by decide +kernel
theorem dS_init_48 : decode b_S_init 48 = .ok (.aload_n 0, 1) := by decide +kernel
theorem dS_init_49 : decode b_S_init 49 = .ok (.iload_n 1, 1) := by decide +kernel
theorem dS_init_50 : decode b_S_init 50 = .ok (.aload_n 0, 1) := by decide +kernel
theorem dS_init_51 : decode b_S_init 51 = .ok (.getfield 25, 3) := by decide +kernel
theorem dS_init_54 : decode b_S_init 54 = .ok (.imul, 1) := by decide +kernel
theorem dS_init_55 : decode b_S_init 55 = .ok (.aload_n 0, 1) := by decide +kernel
theorem dS_init_56 : decode b_S_init 56 = .ok (.getfield 25, 3) := by decide +kernel
theorem dS_init_59 : decode b_S_init 59 = .ok (.imul, 1) := by decide +kernel
theorem dS_init_60 : decode b_S_init 60 = .ok (.newarray .int, 2) := by decide +kernel
theorem dS_init_62 : decode b_S_init 62 = .ok (.putfield 32, 3) := by decide +kernel
theorem dS_init_65 : decode b_S_init 65 = .ok (.aload_n 0, 1) := by decide +kernel
theorem dS_init_66 : decode b_S_init 66 = .ok (.iload_n 1, 1) := by decide +kernel
theorem dS_init_67 : decode b_S_init 67 = .ok (.newarray .boolean, 2) := by decide +kernel
theorem dS_init_69 : decode b_S_init 69 = .ok (.putfield 36, 3) := by decide +kernel
theorem dS_init_72 : decode b_S_init 72 = .ok (.iconst 0, 1) := by decide +kernel
theorem dS_init_73 : decode b_S_init 73 = .ok (.istore_n 3, 1) := by decide +kernel
theorem dS_init_74 : decode b_S_init 74 = .ok (.iload_n 3, 1) := by decide +kernel
theorem dS_init_75 : decode b_S_init 75 = .ok (.iload_n 1, 1) := by decide +kernel
theorem dS_init_76 : decode b_S_init 76 = .ok (.if_icmp .ge 16, 3) := by decide +kernel
theorem dS_init_79 : decode b_S_init 79 = .ok (.aload_n 0, 1) := by decide +kernel
theorem dS_init_80 : decode b_S_init 80 = .ok (.getfield 36, 3) := by decide +kernel
theorem dS_init_83 : decode b_S_init 83 = .ok (.iload_n 3, 1) := by decide +kernel
theorem dS_init_84 : decode b_S_init 84 = .ok (.iconst 1, 1) := by decide +kernel
theorem dS_init_85 : decode b_S_init 85 = .ok (.bastore, 1) := by decide +kernel
theorem dS_init_86 : decode b_S_init 86 = .ok (.iinc 3 1, 3) := by decide +kernel
theorem dS_init_89 : decode b_S_init 89 = .ok (.goto (-15), 3) := by decide +kernel
theorem dS_init_92 : decode b_S_init 92 = .ok (.aload_n 0, 1) := by decide +kernel
theorem dS_init_93 : decode b_S_init 93 = .ok (.iload_n 2, 1) := by decide +kernel
theorem dS_init_94 : decode b_S_init 94 = .ok (.iconst 2, 1) := by decide +kernel
theorem dS_init_95 : decode b_S_init 95 = .ok (.iadd, 1) := by decide +kernel
theorem dS_init_96 : decode b_S_init 96 = .ok (.newarray .int, 2) := by decide +kernel
theorem dS_init_98 : decode b_S_init 98 = .ok (.putfield 39, 3) := by decide +kernel
theorem dS_init_101 : decode b_S_init 101 = .ok (.return_, 1) := by decide +kernel
theorem dS_count_0 : decode b_S_count 0 = .ok (.aload_n 0, 1) := by decide +kernel
theorem dS_count_1 : decode b_S_count 1 = .ok (.getfield 7, 3) := by decide +kernel
theorem dS_count_4 : decode b_S_count 4 = .ok (.ireturn, 1) := by decide +kernel
theorem dS_side_0 : decode b_S_side 0 = .ok (.aload_n 0, 1) := by decide +kernel
theorem dS_side_1 : decode b_S_side 1 = .ok (.getfield 13, 3) := by decide +kernel
theorem dS_side_4 : decode b_S_side 4 = .ok (.ireturn, 1) := by decide +kernel
theorem dS_parts_0 : decode b_S_parts 0 = .ok (.aload_n 0, 1) := by decide +kernel
theorem dS_parts_1 : decode b_S_parts 1 = .ok (.getfield 22, 3) := by decide +kernel
theorem dS_parts_4 : decode b_S_parts 4 = .ok (.ireturn, 1) := by decide +kernel
theorem dS_hasCell_0 : decode b_S_hasCell 0 = .ok (.iload_n 1, 1) := by decide +kernel
theorem dS_hasCell_1 : decode b_S_hasCell 1 = .ok (.iconst 0, 1) := by decide +kernel
theorem dS_hasCell_2 : decode b_S_hasCell 2 = .ok (.aload_n 0, 1) := by decide +kernel
theorem dS_hasCell_3 : decode b_S_hasCell 3 = .ok (.getfield 7, 3) := by decide +kernel
theorem dS_hasCell_6 : decode b_S_hasCell 6 = .ok (.iconst 1, 1) := by decide +kernel
theorem dS_hasCell_7 : decode b_S_hasCell 7 = .ok (.isub, 1) := by decide +kernel
theorem dS_hasCell_8 : decode b_S_hasCell 8 = .ok (.invokestatic 42, 3) := by decide +kernel
theorem dS_hasCell_11 : decode b_S_hasCell 11 = .ok (.ifCond .eq 35, 3) := by decide +kernel
theorem dS_hasCell_14 : decode b_S_hasCell 14 = .ok (.iload_n 2, 1) := by decide +kernel
theorem dS_hasCell_15 : decode b_S_hasCell 15 = .ok (.iconst 0, 1) := by decide +kernel
theorem dS_hasCell_16 : decode b_S_hasCell 16 = .ok (.aload_n 0, 1) := by decide +kernel
theorem dS_hasCell_17 : decode b_S_hasCell 17 = .ok (.getfield 13, 3) := by decide +kernel
theorem dS_hasCell_20 : decode b_S_hasCell 20 = .ok (.iconst 1, 1) := by decide +kernel
theorem dS_hasCell_21 : decode b_S_hasCell 21 = .ok (.isub, 1) := by decide +kernel
theorem dS_hasCell_22 : decode b_S_hasCell 22 = .ok (.invokestatic 42, 3) := by decide +kernel
theorem dS_hasCell_25 : decode b_S_hasCell 25 = .ok (.ifCond .eq 21, 3) := by decide +kernel
theorem dS_hasCell_28 : decode b_S_hasCell 28 = .ok (.iload_n 3, 1) := by decide +kernel
theorem dS_hasCell_29 : decode b_S_hasCell 29 = .ok (.iconst 0, 1) := by decide +kernel
theorem dS_hasCell_30 : decode b_S_hasCell 30 = .ok (.aload_n 0, 1) := by decide +kernel
theorem dS_hasCell_31 : decode b_S_hasCell 31 = .ok (.getfield 13, 3) := by decide +kernel
theorem dS_hasCell_34 : decode b_S_hasCell 34 = .ok (.iconst 1, 1) := by decide +kernel
theorem dS_hasCell_35 : decode b_S_hasCell 35 = .ok (.isub, 1) := by decide +kernel
theorem dS_hasCell_36 : decode b_S_hasCell 36 = .ok (.invokestatic 42, 3) := by decide +kernel
theorem dS_hasCell_39 : decode b_S_hasCell 39 = .ok (.ifCond .eq 7, 3) := by decide +kernel
theorem dS_hasCell_42 : decode b_S_hasCell 42 = .ok (.iconst 1, 1) := by decide +kernel
theorem dS_hasCell_43 : decode b_S_hasCell 43 = .ok (.goto 4, 3) := by decide +kernel
theorem dS_hasCell_46 : decode b_S_hasCell 46 = .ok (.iconst 0, 1) := by decide +kernel
theorem dS_hasCell_47 : decode b_S_hasCell 47 = .ok (.ireturn, 1) := by decide +kernel
theorem dS_hasCorner_0 : decode b_S_hasCorner 0 = .ok (.iload_n 1, 1) := by decide +kernel
theorem dS_hasCorner_1 : decode b_S_hasCorner 1 = .ok (.iconst 0, 1) := by decide +kernel
theorem dS_hasCorner_2 : decode b_S_hasCorner 2 = .ok (.aload_n 0, 1) := by decide +kernel
theorem dS_hasCorner_3 : decode b_S_hasCorner 3 = .ok (.getfield 13, 3) := by decide +kernel
theorem dS_hasCorner_6 : decode b_S_hasCorner 6 = .ok (.invokestatic 42, 3) := by decide +kernel
theorem dS_hasCorner_9 : decode b_S_hasCorner 9 = .ok (.ifCond .eq 19, 3) := by decide +kernel
theorem dS_hasCorner_12 : decode b_S_hasCorner 12 = .ok (.iload_n 2, 1) := by decide +kernel
theorem dS_hasCorner_13 : decode b_S_hasCorner 13 = .ok (.iconst 0, 1) := by decide +kernel
theorem dS_hasCorner_14 : decode b_S_hasCorner 14 = .ok (.aload_n 0, 1) := by decide +kernel
theorem dS_hasCorner_15 : decode b_S_hasCorner 15 = .ok (.getfield 13, 3) := by decide +kernel
theorem dS_hasCorner_18 : decode b_S_hasCorner 18 = .ok (.invokestatic 42, 3) := by decide +kernel
theorem dS_hasCorner_21 : decode b_S_hasCorner 21 = .ok (.ifCond .eq 7, 3) := by decide +kernel
theorem dS_hasCorner_24 : decode b_S_hasCorner 24 = .ok (.iconst 1, 1) := by decide +kernel
theorem dS_hasCorner_25 : decode b_S_hasCorner 25 = .ok (.goto 4, 3) := by decide +kernel
theorem dS_hasCorner_28 : decode b_S_hasCorner 28 = .ok (.iconst 0, 1) := by decide +kernel
theorem dS_hasCorner_29 : decode b_S_hasCorner 29 = .ok (.ireturn, 1) := by decide +kernel
theorem dS_tell_0 : decode b_S_tell 0 = .ok (.aload_n 0, 1) := by decide +kernel
theorem dS_tell_1 : decode b_S_tell 1 = .ok (.iload_n 1, 1) := by decide +kernel
theorem dS_tell_2 : decode b_S_tell 2 = .ok (.iload_n 2, 1) := by decide +kernel
theorem dS_tell_3 : decode b_S_tell 3 = .ok (.iload_n 3, 1) := by decide +kernel
theorem dS_tell_4 : decode b_S_tell 4 = .ok (.invokevirtual 48, 3) := by decide +kernel
theorem dS_tell_7 : decode b_S_tell 7 = .ok (.istore 5, 2) := by decide +kernel
theorem dS_tell_9 : decode b_S_tell 9 = .ok (.aload_n 0, 1) := by decide +kernel
theorem dS_tell_10 : decode b_S_tell 10 = .ok (.getfield 28, 3) := by decide +kernel
theorem dS_tell_13 : decode b_S_tell 13 = .ok (.iload 5, 2) := by decide +kernel
theorem dS_tell_15 : decode b_S_tell 15 = .ok (.baload, 1) := by decide +kernel
theorem dS_tell_16 : decode b_S_tell 16 = .ok (.iload 4, 2) := by decide +kernel
theorem dS_tell_18 : decode b_S_tell 18 = .ok (.if_icmp .eq 7, 3) := by decide +kernel
theorem dS_tell_21 : decode b_S_tell 21 = .ok (.iconst 1, 1) := by decide +kernel
theorem dS_tell_22 : decode b_S_tell 22 = .ok (.goto 4, 3) := by decide +kernel
theorem dS_tell_25 : decode b_S_tell 25 = .ok (.iconst 0, 1) := by decide +kernel
theorem dS_tell_26 : decode b_S_tell 26 = .ok (.istore 6, 2) := by decide +kernel
theorem dS_tell_28 : decode b_S_tell 28 = .ok (.iload 6, 2) := by decide +kernel
theorem dS_tell_30 : decode b_S_tell 30 = .ok (.ifCond .eq 19, 3) := by decide +kernel
theorem dS_tell_33 : decode b_S_tell 33 = .ok (.aload_n 0, 1) := by decide +kernel
theorem dS_tell_34 : decode b_S_tell 34 = .ok (.getfield 28, 3) := by decide +kernel
theorem dS_tell_37 : decode b_S_tell 37 = .ok (.iload 5, 2) := by decide +kernel
theorem dS_tell_39 : decode b_S_tell 39 = .ok (.iload 4, 2) := by decide +kernel
theorem dS_tell_41 : decode b_S_tell 41 = .ok (.bastore, 1) := by decide +kernel
theorem dS_tell_42 : decode b_S_tell 42 = .ok (.aload_n 0, 1) := by decide +kernel
theorem dS_tell_43 : decode b_S_tell 43 = .ok (.getfield 36, 3) := by decide +kernel
theorem dS_tell_46 : decode b_S_tell 46 = .ok (.iload_n 1, 1) := by decide +kernel
theorem dS_tell_47 : decode b_S_tell 47 = .ok (.iconst 1, 1) := by decide +kernel
theorem dS_tell_48 : decode b_S_tell 48 = .ok (.bastore, 1) := by decide +kernel
theorem dS_tell_49 : decode b_S_tell 49 = .ok (.iload 6, 2) := by decide +kernel
theorem dS_tell_51 : decode b_S_tell 51 = .ok (.ireturn, 1) := by decide +kernel
theorem dS_nearestAt_0 : decode b_S_nearestAt 0 = .ok (.aload_n 0, 1) := by decide +kernel
theorem dS_nearestAt_1 : decode b_S_nearestAt 1 = .ok (.getfield 36, 3) := by decide +kernel
theorem dS_nearestAt_4 : decode b_S_nearestAt 4 = .ok (.iload_n 1, 1) := by decide +kernel
theorem dS_nearestAt_5 : decode b_S_nearestAt 5 = .ok (.baload, 1) := by decide +kernel
theorem dS_nearestAt_6 : decode b_S_nearestAt 6 = .ok (.ifCond .eq 15, 3) := by decide +kernel
theorem dS_nearestAt_9 : decode b_S_nearestAt 9 = .ok (.aload_n 0, 1) := by decide +kernel
theorem dS_nearestAt_10 : decode b_S_nearestAt 10 = .ok (.iload_n 1, 1) := by decide +kernel
theorem dS_nearestAt_11 : decode b_S_nearestAt 11 = .ok (.invokevirtual 52, 3) := by decide +kernel
theorem dS_nearestAt_14 : decode b_S_nearestAt 14 = .ok (.aload_n 0, 1) := by decide +kernel
theorem dS_nearestAt_15 : decode b_S_nearestAt 15 = .ok (.getfield 36, 3) := by decide +kernel
theorem dS_nearestAt_18 : decode b_S_nearestAt 18 = .ok (.iload_n 1, 1) := by decide +kernel
theorem dS_nearestAt_19 : decode b_S_nearestAt 19 = .ok (.iconst 0, 1) := by decide +kernel
theorem dS_nearestAt_20 : decode b_S_nearestAt 20 = .ok (.bastore, 1) := by decide +kernel
theorem dS_nearestAt_21 : decode b_S_nearestAt 21 = .ok (.aload_n 0, 1) := by decide +kernel
theorem dS_nearestAt_22 : decode b_S_nearestAt 22 = .ok (.getfield 32, 3) := by decide +kernel
theorem dS_nearestAt_25 : decode b_S_nearestAt 25 = .ok (.iload_n 1, 1) := by decide +kernel
theorem dS_nearestAt_26 : decode b_S_nearestAt 26 = .ok (.aload_n 0, 1) := by decide +kernel
theorem dS_nearestAt_27 : decode b_S_nearestAt 27 = .ok (.getfield 25, 3) := by decide +kernel
theorem dS_nearestAt_30 : decode b_S_nearestAt 30 = .ok (.imul, 1) := by decide +kernel
theorem dS_nearestAt_31 : decode b_S_nearestAt 31 = .ok (.iload_n 3, 1) := by decide +kernel
theorem dS_nearestAt_32 : decode b_S_nearestAt 32 = .ok (.iadd, 1) := by decide +kernel
theorem dS_nearestAt_33 : decode b_S_nearestAt 33 = .ok (.aload_n 0, 1) := by decide +kernel
theorem dS_nearestAt_34 : decode b_S_nearestAt 34 = .ok (.getfield 25, 3) := by decide +kernel
theorem dS_nearestAt_37 : decode b_S_nearestAt 37 = .ok (.imul, 1) := by decide +kernel
theorem dS_nearestAt_38 : decode b_S_nearestAt 38 = .ok (.iload_n 2, 1) := by decide +kernel
theorem dS_nearestAt_39 : decode b_S_nearestAt 39 = .ok (.iadd, 1) := by decide +kernel
theorem dS_nearestAt_40 : decode b_S_nearestAt 40 = .ok (.iaload, 1) := by decide +kernel
theorem dS_nearestAt_41 : decode b_S_nearestAt 41 = .ok (.ireturn, 1) := by decide +kernel
theorem dS_measure_0 : decode b_S_measure 0 = .ok (.iconst 0, 1) := by decide +kernel
theorem dS_measure_1 : decode b_S_measure 1 = .ok (.istore_n 2, 1) := by decide +kernel
theorem dS_measure_2 : decode b_S_measure 2 = .ok (.iload_n 2, 1) := by decide +kernel
theorem dS_measure_3 : decode b_S_measure 3 = .ok (.aload_n 0, 1) := by decide +kernel
theorem dS_measure_4 : decode b_S_measure 4 = .ok (.getfield 25, 3) := by decide +kernel
theorem dS_measure_7 : decode b_S_measure 7 = .ok (.if_icmp .ge 81, 3) := by decide +kernel
theorem dS_measure_10 : decode b_S_measure 10 = .ok (.iconst (-1), 1) := by decide +kernel
theorem dS_measure_11 : decode b_S_measure 11 = .ok (.istore_n 3, 1) := by decide +kernel
theorem dS_measure_12 : decode b_S_measure 12 = .ok (.iload_n 3, 1) := by decide +kernel
theorem dS_measure_13 : decode b_S_measure 13 = .ok (.aload_n 0, 1) := by decide +kernel
theorem dS_measure_14 : decode b_S_measure 14 = .ok (.getfield 13, 3) := by decide +kernel
theorem dS_measure_17 : decode b_S_measure 17 = .ok (.if_icmp .gt 24, 3) := by decide +kernel
theorem dS_measure_20 : decode b_S_measure 20 = .ok (.aload_n 0, 1) := by decide +kernel
theorem dS_measure_21 : decode b_S_measure 21 = .ok (.getfield 39, 3) := by decide +kernel
theorem dS_measure_24 : decode b_S_measure 24 = .ok (.iload_n 3, 1) := by decide +kernel
theorem dS_measure_25 : decode b_S_measure 25 = .ok (.iconst 1, 1) := by decide +kernel
theorem dS_measure_26 : decode b_S_measure 26 = .ok (.iadd, 1) := by decide +kernel
theorem dS_measure_27 : decode b_S_measure 27 = .ok (.aload_n 0, 1) := by decide +kernel
theorem dS_measure_28 : decode b_S_measure 28 = .ok (.iload_n 1, 1) := by decide +kernel
theorem dS_measure_29 : decode b_S_measure 29 = .ok (.iload_n 3, 1) := by decide +kernel
theorem dS_measure_30 : decode b_S_measure 30 = .ok (.iload_n 2, 1) := by decide +kernel
theorem dS_measure_31 : decode b_S_measure 31 = .ok (.invokevirtual 56, 3) := by decide +kernel
theorem dS_measure_34 : decode b_S_measure 34 = .ok (.iastore, 1) := by decide +kernel
theorem dS_measure_35 : decode b_S_measure 35 = .ok (.iinc 3 1, 3) := by decide +kernel
theorem dS_measure_38 : decode b_S_measure 38 = .ok (.goto (-26), 3) := by decide +kernel
theorem dS_measure_41 : decode b_S_measure 41 = .ok (.iconst 0, 1) := by decide +kernel
theorem dS_measure_42 : decode b_S_measure 42 = .ok (.istore_n 3, 1) := by decide +kernel
theorem dS_measure_43 : decode b_S_measure 43 = .ok (.iload_n 3, 1) := by decide +kernel
theorem dS_measure_44 : decode b_S_measure 44 = .ok (.aload_n 0, 1) := by decide +kernel
theorem dS_measure_45 : decode b_S_measure 45 = .ok (.getfield 25, 3) := by decide +kernel
theorem dS_measure_48 : decode b_S_measure 48 = .ok (.if_icmp .ge 34, 3) := by decide +kernel
theorem dS_measure_51 : decode b_S_measure 51 = .ok (.aload_n 0, 1) := by decide +kernel
theorem dS_measure_52 : decode b_S_measure 52 = .ok (.getfield 32, 3) := by decide +kernel
theorem dS_measure_55 : decode b_S_measure 55 = .ok (.iload_n 1, 1) := by decide +kernel
theorem dS_measure_56 : decode b_S_measure 56 = .ok (.aload_n 0, 1) := by decide +kernel
theorem dS_measure_57 : decode b_S_measure 57 = .ok (.getfield 25, 3) := by decide +kernel
theorem dS_measure_60 : decode b_S_measure 60 = .ok (.imul, 1) := by decide +kernel
theorem dS_measure_61 : decode b_S_measure 61 = .ok (.iload_n 2, 1) := by decide +kernel
theorem dS_measure_62 : decode b_S_measure 62 = .ok (.iadd, 1) := by decide +kernel
theorem dS_measure_63 : decode b_S_measure 63 = .ok (.aload_n 0, 1) := by decide +kernel
theorem dS_measure_64 : decode b_S_measure 64 = .ok (.getfield 25, 3) := by decide +kernel
theorem dS_measure_67 : decode b_S_measure 67 = .ok (.imul, 1) := by decide +kernel
theorem dS_measure_68 : decode b_S_measure 68 = .ok (.iload_n 3, 1) := by decide +kernel
theorem dS_measure_69 : decode b_S_measure 69 = .ok (.iadd, 1) := by decide +kernel
theorem dS_measure_70 : decode b_S_measure 70 = .ok (.aload_n 0, 1) := by decide +kernel
theorem dS_measure_71 : decode b_S_measure 71 = .ok (.iload_n 3, 1) := by decide +kernel
theorem dS_measure_72 : decode b_S_measure 72 = .ok (.invokevirtual 59, 3) := by decide +kernel
theorem dS_measure_75 : decode b_S_measure 75 = .ok (.iastore, 1) := by decide +kernel
theorem dS_measure_76 : decode b_S_measure 76 = .ok (.iinc 3 1, 3) := by decide +kernel
theorem dS_measure_79 : decode b_S_measure 79 = .ok (.goto (-36), 3) := by decide +kernel
theorem dS_measure_82 : decode b_S_measure 82 = .ok (.iinc 2 1, 3) := by decide +kernel
theorem dS_measure_85 : decode b_S_measure 85 = .ok (.goto (-83), 3) := by decide +kernel
theorem dS_measure_88 : decode b_S_measure 88 = .ok (.return_, 1) := by decide +kernel
theorem dS_nearestInColumnOf_0 : decode b_S_nearestInColumnOf 0 = .ok (.ldc 65, 2) := by decide +kernel
theorem dS_nearestInColumnOf_2 : decode b_S_nearestInColumnOf 2 = .ok (.istore 4, 2) := by decide +kernel
theorem dS_nearestInColumnOf_4 : decode b_S_nearestInColumnOf 4 = .ok (.iconst (-1), 1) := by decide +kernel
theorem dS_nearestInColumnOf_5 : decode b_S_nearestInColumnOf 5 = .ok (.istore 5, 2) := by decide +kernel
theorem dS_nearestInColumnOf_7 : decode b_S_nearestInColumnOf 7 = .ok (.iload 5, 2) := by decide +kernel
theorem dS_nearestInColumnOf_9 : decode b_S_nearestInColumnOf 9 = .ok (.aload_n 0, 1) := by decide +kernel
theorem dS_nearestInColumnOf_10 : decode b_S_nearestInColumnOf 10 = .ok (.getfield 13, 3) := by decide +kernel
theorem dS_nearestInColumnOf_13 : decode b_S_nearestInColumnOf 13 = .ok (.if_icmp .gt 41, 3) := by decide +kernel
theorem dS_nearestInColumnOf_16 : decode b_S_nearestInColumnOf 16 = .ok (.aload_n 0, 1) := by decide +kernel
theorem dS_nearestInColumnOf_17 : decode b_S_nearestInColumnOf 17 = .ok (.iload_n 1, 1) := by decide +kernel
theorem dS_nearestInColumnOf_18 : decode b_S_nearestInColumnOf 18 = .ok (.iload_n 2, 1) := by decide +kernel
theorem dS_nearestInColumnOf_19 : decode b_S_nearestInColumnOf 19 = .ok (.iload 5, 2) := by decide +kernel
theorem dS_nearestInColumnOf_21 : decode b_S_nearestInColumnOf 21 = .ok (.invokevirtual 66, 3) := by decide +kernel
theorem dS_nearestInColumnOf_24 : decode b_S_nearestInColumnOf 24 = .ok (.ifCond .ne 24, 3) := by decide +kernel
theorem dS_nearestInColumnOf_27 : decode b_S_nearestInColumnOf 27 = .ok (.aload_n 0, 1) := by decide +kernel
theorem dS_nearestInColumnOf_28 : decode b_S_nearestInColumnOf 28 = .ok (.iload_n 3, 1) := by decide +kernel
theorem dS_nearestInColumnOf_29 : decode b_S_nearestInColumnOf 29 = .ok (.iload 5, 2) := by decide +kernel
theorem dS_nearestInColumnOf_31 : decode b_S_nearestInColumnOf 31 = .ok (.invokevirtual 69, 3) := by decide +kernel
theorem dS_nearestInColumnOf_34 : decode b_S_nearestInColumnOf 34 = .ok (.istore 6, 2) := by decide +kernel
theorem dS_nearestInColumnOf_36 : decode b_S_nearestInColumnOf 36 = .ok (.iload 4, 2) := by decide +kernel
theorem dS_nearestInColumnOf_38 : decode b_S_nearestInColumnOf 38 = .ok (.iload 6, 2) := by decide +kernel
theorem dS_nearestInColumnOf_40 : decode b_S_nearestInColumnOf 40 = .ok (.iload 6, 2) := by decide +kernel
theorem dS_nearestInColumnOf_42 : decode b_S_nearestInColumnOf 42 = .ok (.imul, 1) := by decide +kernel
theorem dS_nearestInColumnOf_43 : decode b_S_nearestInColumnOf 43 = .ok (.invokestatic 72, 3) := by decide +kernel
theorem dS_nearestInColumnOf_46 : decode b_S_nearestInColumnOf 46 = .ok (.istore 4, 2) := by decide +kernel
theorem dS_nearestInColumnOf_48 : decode b_S_nearestInColumnOf 48 = .ok (.iinc 5 1, 3) := by decide +kernel
theorem dS_nearestInColumnOf_51 : decode b_S_nearestInColumnOf 51 = .ok (.goto (-44), 3) := by decide +kernel
theorem dS_nearestInColumnOf_54 : decode b_S_nearestInColumnOf 54 = .ok (.iload 4, 2) := by decide +kernel
theorem dS_nearestInColumnOf_56 : decode b_S_nearestInColumnOf 56 = .ok (.ireturn, 1) := by decide +kernel
theorem dS_nearestOverColumns_0 : decode b_S_nearestOverColumns 0 = .ok (.ldc 65, 2) := by decide +kernel
theorem dS_nearestOverColumns_2 : decode b_S_nearestOverColumns 2 = .ok (.istore_n 2, 1) := by decide +kernel
theorem dS_nearestOverColumns_3 : decode b_S_nearestOverColumns 3 = .ok (.iconst (-1), 1) := by decide +kernel
theorem dS_nearestOverColumns_4 : decode b_S_nearestOverColumns 4 = .ok (.istore_n 3, 1) := by decide +kernel
theorem dS_nearestOverColumns_5 : decode b_S_nearestOverColumns 5 = .ok (.iload_n 3, 1) := by decide +kernel
theorem dS_nearestOverColumns_6 : decode b_S_nearestOverColumns 6 = .ok (.aload_n 0, 1) := by decide +kernel
theorem dS_nearestOverColumns_7 : decode b_S_nearestOverColumns 7 = .ok (.getfield 13, 3) := by decide +kernel
theorem dS_nearestOverColumns_10 : decode b_S_nearestOverColumns 10 = .ok (.if_icmp .gt 36, 3) := by decide +kernel
theorem dS_nearestOverColumns_13 : decode b_S_nearestOverColumns 13 = .ok (.aload_n 0, 1) := by decide +kernel
theorem dS_nearestOverColumns_14 : decode b_S_nearestOverColumns 14 = .ok (.iload_n 1, 1) := by decide +kernel
theorem dS_nearestOverColumns_15 : decode b_S_nearestOverColumns 15 = .ok (.iload_n 3, 1) := by decide +kernel
theorem dS_nearestOverColumns_16 : decode b_S_nearestOverColumns 16 = .ok (.invokevirtual 69, 3) := by decide +kernel
theorem dS_nearestOverColumns_19 : decode b_S_nearestOverColumns 19 = .ok (.istore 4, 2) := by decide +kernel
theorem dS_nearestOverColumns_21 : decode b_S_nearestOverColumns 21 = .ok (.iload_n 2, 1) := by decide +kernel
theorem dS_nearestOverColumns_22 : decode b_S_nearestOverColumns 22 = .ok (.iload 4, 2) := by decide +kernel
theorem dS_nearestOverColumns_24 : decode b_S_nearestOverColumns 24 = .ok (.iload 4, 2) := by decide +kernel
theorem dS_nearestOverColumns_26 : decode b_S_nearestOverColumns 26 = .ok (.imul, 1) := by decide +kernel
theorem dS_nearestOverColumns_27 : decode b_S_nearestOverColumns 27 = .ok (.aload_n 0, 1) := by decide +kernel
theorem dS_nearestOverColumns_28 : decode b_S_nearestOverColumns 28 = .ok (.getfield 39, 3) := by decide +kernel
theorem dS_nearestOverColumns_31 : decode b_S_nearestOverColumns 31 = .ok (.iload_n 3, 1) := by decide +kernel
theorem dS_nearestOverColumns_32 : decode b_S_nearestOverColumns 32 = .ok (.iconst 1, 1) := by decide +kernel
theorem dS_nearestOverColumns_33 : decode b_S_nearestOverColumns 33 = .ok (.iadd, 1) := by decide +kernel
theorem dS_nearestOverColumns_34 : decode b_S_nearestOverColumns 34 = .ok (.iaload, 1) := by decide +kernel
theorem dS_nearestOverColumns_35 : decode b_S_nearestOverColumns 35 = .ok (.iadd, 1) := by decide +kernel
theorem dS_nearestOverColumns_36 : decode b_S_nearestOverColumns 36 = .ok (.invokestatic 72, 3) := by decide +kernel
theorem dS_nearestOverColumns_39 : decode b_S_nearestOverColumns 39 = .ok (.istore_n 2, 1) := by decide +kernel
theorem dS_nearestOverColumns_40 : decode b_S_nearestOverColumns 40 = .ok (.iinc 3 1, 3) := by decide +kernel
theorem dS_nearestOverColumns_43 : decode b_S_nearestOverColumns 43 = .ok (.goto (-38), 3) := by decide +kernel
theorem dS_nearestOverColumns_46 : decode b_S_nearestOverColumns 46 = .ok (.iload_n 2, 1) := by decide +kernel
theorem dS_nearestOverColumns_47 : decode b_S_nearestOverColumns 47 = .ok (.ireturn, 1) := by decide +kernel
theorem dS_isIn_0 : decode b_S_isIn 0 = .ok (.aload_n 0, 1) := by decide +kernel
theorem dS_isIn_1 : decode b_S_isIn 1 = .ok (.iload_n 1, 1) := by decide +kernel
theorem dS_isIn_2 : decode b_S_isIn 2 = .ok (.iload_n 2, 1) := by decide +kernel
theorem dS_isIn_3 : decode b_S_isIn 3 = .ok (.iload_n 3, 1) := by decide +kernel
theorem dS_isIn_4 : decode b_S_isIn 4 = .ok (.invokevirtual 75, 3) := by decide +kernel
theorem dS_isIn_7 : decode b_S_isIn 7 = .ok (.ifCond .eq 22, 3) := by decide +kernel
theorem dS_isIn_10 : decode b_S_isIn 10 = .ok (.aload_n 0, 1) := by decide +kernel
theorem dS_isIn_11 : decode b_S_isIn 11 = .ok (.getfield 28, 3) := by decide +kernel
theorem dS_isIn_14 : decode b_S_isIn 14 = .ok (.aload_n 0, 1) := by decide +kernel
theorem dS_isIn_15 : decode b_S_isIn 15 = .ok (.iload_n 1, 1) := by decide +kernel
theorem dS_isIn_16 : decode b_S_isIn 16 = .ok (.iload_n 2, 1) := by decide +kernel
theorem dS_isIn_17 : decode b_S_isIn 17 = .ok (.iload_n 3, 1) := by decide +kernel
theorem dS_isIn_18 : decode b_S_isIn 18 = .ok (.invokevirtual 48, 3) := by decide +kernel
theorem dS_isIn_21 : decode b_S_isIn 21 = .ok (.baload, 1) := by decide +kernel
theorem dS_isIn_22 : decode b_S_isIn 22 = .ok (.ifCond .eq 7, 3) := by decide +kernel
theorem dS_isIn_25 : decode b_S_isIn 25 = .ok (.iconst 1, 1) := by decide +kernel
theorem dS_isIn_26 : decode b_S_isIn 26 = .ok (.goto 4, 3) := by decide +kernel
theorem dS_isIn_29 : decode b_S_isIn 29 = .ok (.iconst 0, 1) := by decide +kernel
theorem dS_isIn_30 : decode b_S_isIn 30 = .ok (.ireturn, 1) := by decide +kernel
theorem dS_indexOf_0 : decode b_S_indexOf 0 = .ok (.iload_n 1, 1) := by decide +kernel
theorem dS_indexOf_1 : decode b_S_indexOf 1 = .ok (.aload_n 0, 1) := by decide +kernel
theorem dS_indexOf_2 : decode b_S_indexOf 2 = .ok (.getfield 13, 3) := by decide +kernel
theorem dS_indexOf_5 : decode b_S_indexOf 5 = .ok (.imul, 1) := by decide +kernel
theorem dS_indexOf_6 : decode b_S_indexOf 6 = .ok (.iload_n 3, 1) := by decide +kernel
theorem dS_indexOf_7 : decode b_S_indexOf 7 = .ok (.iadd, 1) := by decide +kernel
theorem dS_indexOf_8 : decode b_S_indexOf 8 = .ok (.aload_n 0, 1) := by decide +kernel
theorem dS_indexOf_9 : decode b_S_indexOf 9 = .ok (.getfield 13, 3) := by decide +kernel
theorem dS_indexOf_12 : decode b_S_indexOf 12 = .ok (.imul, 1) := by decide +kernel
theorem dS_indexOf_13 : decode b_S_indexOf 13 = .ok (.iload_n 2, 1) := by decide +kernel
theorem dS_indexOf_14 : decode b_S_indexOf 14 = .ok (.iadd, 1) := by decide +kernel
theorem dS_indexOf_15 : decode b_S_indexOf 15 = .ok (.ireturn, 1) := by decide +kernel
theorem dS_gap_0 : decode b_S_gap 0 = .ok (.iload_n 2, 1) := by decide +kernel
theorem dS_gap_1 : decode b_S_gap 1 = .ok (.aload_n 0, 1) := by decide +kernel
theorem dS_gap_2 : decode b_S_gap 2 = .ok (.getfield 22, 3) := by decide +kernel
theorem dS_gap_5 : decode b_S_gap 5 = .ok (.imul, 1) := by decide +kernel
theorem dS_gap_6 : decode b_S_gap 6 = .ok (.istore_n 3, 1) := by decide +kernel
theorem dS_gap_7 : decode b_S_gap 7 = .ok (.iload_n 3, 1) := by decide +kernel
theorem dS_gap_8 : decode b_S_gap 8 = .ok (.aload_n 0, 1) := by decide +kernel
theorem dS_gap_9 : decode b_S_gap 9 = .ok (.getfield 22, 3) := by decide +kernel
theorem dS_gap_12 : decode b_S_gap 12 = .ok (.iadd, 1) := by decide +kernel
theorem dS_gap_13 : decode b_S_gap 13 = .ok (.istore 4, 2) := by decide +kernel
theorem dS_gap_15 : decode b_S_gap 15 = .ok (.iload_n 1, 1) := by decide +kernel
theorem dS_gap_16 : decode b_S_gap 16 = .ok (.iload_n 3, 1) := by decide +kernel
theorem dS_gap_17 : decode b_S_gap 17 = .ok (.if_icmp .ge 9, 3) := by decide +kernel
theorem dS_gap_20 : decode b_S_gap 20 = .ok (.iload_n 3, 1) := by decide +kernel
theorem dS_gap_21 : decode b_S_gap 21 = .ok (.iload_n 1, 1) := by decide +kernel
theorem dS_gap_22 : decode b_S_gap 22 = .ok (.isub, 1) := by decide +kernel
theorem dS_gap_23 : decode b_S_gap 23 = .ok (.goto 17, 3) := by decide +kernel
theorem dS_gap_26 : decode b_S_gap 26 = .ok (.iload_n 1, 1) := by decide +kernel
theorem dS_gap_27 : decode b_S_gap 27 = .ok (.iload 4, 2) := by decide +kernel
theorem dS_gap_29 : decode b_S_gap 29 = .ok (.if_icmp .le 10, 3) := by decide +kernel
theorem dS_gap_32 : decode b_S_gap 32 = .ok (.iload_n 1, 1) := by decide +kernel
theorem dS_gap_33 : decode b_S_gap 33 = .ok (.iload 4, 2) := by decide +kernel
theorem dS_gap_35 : decode b_S_gap 35 = .ok (.isub, 1) := by decide +kernel
theorem dS_gap_36 : decode b_S_gap 36 = .ok (.goto 4, 3) := by decide +kernel
theorem dS_gap_39 : decode b_S_gap 39 = .ok (.iconst 0, 1) := by decide +kernel
theorem dS_gap_40 : decode b_S_gap 40 = .ok (.ireturn, 1) := by decide +kernel
end
section
theorem dA_init_0 : decode b_A_init 0 = .ok (.aload_n 0, 1) := by decide +kernel
theorem dA_init_1 : decode b_A_init 1 = .ok (.invokespecial 1, 3) := by decide +kernel
theorem dA_init_4 : decode b_A_init 4 = .ok (.aload_n 0, 1) := by decide +kernel
theorem dA_init_5 : decode b_A_init 5 = .ok (.iconst 4, 1) := by decide +kernel
theorem dA_init_6 : decode b_A_init 6 = .ok (.newarray .int, 2) := by decide +kernel
theorem dA_init_8 : decode b_A_init 8 = .ok (.putfield 7, 3) := by decide +kernel
theorem dA_init_11 : decode b_A_init 11 = .ok (.aload_n 0, 1) := by decide +kernel
theorem dA_init_12 : decode b_A_init 12 = .ok (.iconst 1, 1) := by decide +kernel
theorem dA_init_13 : decode b_A_init 13 = .ok (.putfield 13, 3) := by decide +kernel
theorem dA_init_16 : decode b_A_init 16 = .ok (.aload_n 0, 1) := by decide +kernel
theorem dA_init_17 : decode b_A_init 17 = .ok (.aload_n 1, 1) := by decide +kernel
theorem dA_init_18 : decode b_A_init 18 = .ok (.putfield 17, 3) := by decide +kernel
theorem dA_init_21 : decode b_A_init 21 = .ok (.return_, 1) := by decide +kernel
theorem dA_forget_0 : decode b_A_forget 0 = .ok (.aload_n 0, 1) := by decide +kernel
theorem dA_forget_1 : decode b_A_forget 1 = .ok (.iconst 1, 1) := by decide +kernel
theorem dA_forget_2 : decode b_A_forget 2 = .ok (.putfield 13, 3) := by decide +kernel
theorem dA_forget_5 : decode b_A_forget 5 = .ok (.return_, 1) := by decide +kernel
theorem dA_number_0 : decode b_A_number 0 = .ok (.aload_n 0, 1) := by decide +kernel
theorem dA_number_1 : decode b_A_number 1 = .ok (.invokevirtual 21, 3) := by decide +kernel
theorem dA_number_4 : decode b_A_number 4 = .ok (.aload_n 0, 1) := by decide +kernel
theorem dA_number_5 : decode b_A_number 5 = .ok (.getfield 7, 3) := by decide +kernel
theorem dA_number_8 : decode b_A_number 8 = .ok (.iload_n 1, 1) := by decide +kernel
theorem dA_number_9 : decode b_A_number 9 = .ok (.iaload, 1) := by decide +kernel
theorem dA_number_10 : decode b_A_number 10 = .ok (.ireturn, 1) := by decide +kernel
theorem dA_greatestRoom_0 : decode b_A_greatestRoom 0 = .ok (.aload_n 0, 1) := by decide +kernel
theorem dA_greatestRoom_1 : decode b_A_greatestRoom 1 = .ok (.invokevirtual 21, 3) := by decide +kernel
theorem dA_greatestRoom_4 : decode b_A_greatestRoom 4 = .ok (.aload_n 0, 1) := by decide +kernel
theorem dA_greatestRoom_5 : decode b_A_greatestRoom 5 = .ok (.getfield 24, 3) := by decide +kernel
theorem dA_greatestRoom_8 : decode b_A_greatestRoom 8 = .ok (.ireturn, 1) := by decide +kernel
theorem dA_greatestRadius_0 : decode b_A_greatestRadius 0 = .ok (.aload_n 0, 1) := by decide +kernel
theorem dA_greatestRadius_1 : decode b_A_greatestRadius 1 = .ok (.invokevirtual 21, 3) := by decide +kernel
theorem dA_greatestRadius_4 : decode b_A_greatestRadius 4 = .ok (.aload_n 0, 1) := by decide +kernel
theorem dA_greatestRadius_5 : decode b_A_greatestRadius 5 = .ok (.getfield 24, 3) := by decide +kernel
theorem dA_greatestRadius_8 : decode b_A_greatestRadius 8 = .ok (.sipush 10000, 3) := by decide +kernel
theorem dA_greatestRadius_11 : decode b_A_greatestRadius 11 = .ok (.imul, 1) := by decide +kernel
theorem dA_greatestRadius_12 : decode b_A_greatestRadius 12 = .ok (.invokestatic 28, 3) := by decide +kernel
theorem dA_greatestRadius_15 : decode b_A_greatestRadius 15 = .ok (.aload_n 0, 1) := by decide +kernel
theorem dA_greatestRadius_16 : decode b_A_greatestRadius 16 = .ok (.getfield 17, 3) := by decide +kernel
theorem dA_greatestRadius_19 : decode b_A_greatestRadius 19 = .ok (.invokevirtual 32, 3) := by decide +kernel
theorem dA_greatestRadius_22 : decode b_A_greatestRadius 22 = .ok (.idiv, 1) := by decide +kernel
theorem dA_greatestRadius_23 : decode b_A_greatestRadius 23 = .ok (.ireturn, 1) := by decide +kernel
theorem dA_exactRoom_0 : decode b_A_exactRoom 0 = .ok (.aload_n 0, 1) := by decide +kernel
theorem dA_exactRoom_1 : decode b_A_exactRoom 1 = .ok (.iconst 0, 1) := by decide +kernel
theorem dA_exactRoom_2 : decode b_A_exactRoom 2 = .ok (.iload_n 1, 1) := by decide +kernel
theorem dA_exactRoom_3 : decode b_A_exactRoom 3 = .ok (.iload_n 2, 1) := by decide +kernel
theorem dA_exactRoom_4 : decode b_A_exactRoom 4 = .ok (.iload_n 3, 1) := by decide +kernel
theorem dA_exactRoom_5 : decode b_A_exactRoom 5 = .ok (.iload 4, 2) := by decide +kernel
theorem dA_exactRoom_7 : decode b_A_exactRoom 7 = .ok (.invokevirtual 38, 3) := by decide +kernel
theorem dA_exactRoom_10 : decode b_A_exactRoom 10 = .ok (.ireturn, 1) := by decide +kernel
theorem dA_roomAbove_0 : decode b_A_roomAbove 0 = .ok (.ldc 44, 2) := by decide +kernel
theorem dA_roomAbove_2 : decode b_A_roomAbove 2 = .ok (.istore 6, 2) := by decide +kernel
theorem dA_roomAbove_4 : decode b_A_roomAbove 4 = .ok (.aload_n 0, 1) := by decide +kernel
theorem dA_roomAbove_5 : decode b_A_roomAbove 5 = .ok (.getfield 17, 3) := by decide +kernel
theorem dA_roomAbove_8 : decode b_A_roomAbove 8 = .ok (.invokevirtual 45, 3) := by decide +kernel
theorem dA_roomAbove_11 : decode b_A_roomAbove 11 = .ok (.iconst 1, 1) := by decide +kernel
theorem dA_roomAbove_12 : decode b_A_roomAbove 12 = .ok (.isub, 1) := by decide +kernel
theorem dA_roomAbove_13 : decode b_A_roomAbove 13 = .ok (.istore 7, 2) := by decide +kernel
theorem dA_roomAbove_15 : decode b_A_roomAbove 15 = .ok (.iload 7, 2) := by decide +kernel
theorem dA_roomAbove_17 : decode b_A_roomAbove 17 = .ok (.ifCond .lt 57, 3) := by decide +kernel
theorem dA_roomAbove_20 : decode b_A_roomAbove 20 = .ok (.iload 6, 2) := by decide +kernel
theorem dA_roomAbove_22 : decode b_A_roomAbove 22 = .ok (.iload_n 1, 1) := by decide +kernel
theorem dA_roomAbove_23 : decode b_A_roomAbove 23 = .ok (.if_icmp .le 51, 3) := by decide +kernel
theorem dA_roomAbove_26 : decode b_A_roomAbove 26 = .ok (.aload_n 0, 1) := by decide +kernel
theorem dA_roomAbove_27 : decode b_A_roomAbove 27 = .ok (.iload 7, 2) := by decide +kernel
theorem dA_roomAbove_29 : decode b_A_roomAbove 29 = .ok (.iload_n 2, 1) := by decide +kernel
theorem dA_roomAbove_30 : decode b_A_roomAbove 30 = .ok (.iload 4, 2) := by decide +kernel
theorem dA_roomAbove_32 : decode b_A_roomAbove 32 = .ok (.invokevirtual 48, 3) := by decide +kernel
theorem dA_roomAbove_35 : decode b_A_roomAbove 35 = .ok (.istore 8, 2) := by decide +kernel
theorem dA_roomAbove_37 : decode b_A_roomAbove 37 = .ok (.aload_n 0, 1) := by decide +kernel
theorem dA_roomAbove_38 : decode b_A_roomAbove 38 = .ok (.iload 7, 2) := by decide +kernel
theorem dA_roomAbove_40 : decode b_A_roomAbove 40 = .ok (.iload_n 3, 1) := by decide +kernel
theorem dA_roomAbove_41 : decode b_A_roomAbove 41 = .ok (.iload 5, 2) := by decide +kernel
theorem dA_roomAbove_43 : decode b_A_roomAbove 43 = .ok (.invokevirtual 48, 3) := by decide +kernel
theorem dA_roomAbove_46 : decode b_A_roomAbove 46 = .ok (.istore 9, 2) := by decide +kernel
theorem dA_roomAbove_48 : decode b_A_roomAbove 48 = .ok (.iload 6, 2) := by decide +kernel
theorem dA_roomAbove_50 : decode b_A_roomAbove 50 = .ok (.aload_n 0, 1) := by decide +kernel
theorem dA_roomAbove_51 : decode b_A_roomAbove 51 = .ok (.getfield 17, 3) := by decide +kernel
theorem dA_roomAbove_54 : decode b_A_roomAbove 54 = .ok (.iload 7, 2) := by decide +kernel
theorem dA_roomAbove_56 : decode b_A_roomAbove 56 = .ok (.iload 8, 2) := by decide +kernel
theorem dA_roomAbove_58 : decode b_A_roomAbove 58 = .ok (.iload 9, 2) := by decide +kernel
theorem dA_roomAbove_60 : decode b_A_roomAbove 60 = .ok (.invokevirtual 52, 3) := by decide +kernel
theorem dA_roomAbove_63 : decode b_A_roomAbove 63 = .ok (.invokestatic 55, 3) := by decide +kernel
theorem dA_roomAbove_66 : decode b_A_roomAbove 66 = .ok (.istore 6, 2) := by decide +kernel
theorem dA_roomAbove_68 : decode b_A_roomAbove 68 = .ok (.iinc 7 (-1), 3) := by decide +kernel
theorem dA_roomAbove_71 : decode b_A_roomAbove 71 = .ok (.goto (-56), 3) := by decide +kernel
theorem dA_roomAbove_74 : decode b_A_roomAbove 74 = .ok (.iload 6, 2) := by decide +kernel
theorem dA_roomAbove_76 : decode b_A_roomAbove 76 = .ok (.ireturn, 1) := by decide +kernel
theorem dA_placeAt_0 : decode b_A_placeAt 0 = .ok (.iload_n 2, 1) := by decide +kernel
theorem dA_placeAt_1 : decode b_A_placeAt 1 = .ok (.aload_n 0, 1) := by decide +kernel
theorem dA_placeAt_2 : decode b_A_placeAt 2 = .ok (.getfield 17, 3) := by decide +kernel
theorem dA_placeAt_5 : decode b_A_placeAt 5 = .ok (.invokevirtual 32, 3) := by decide +kernel
theorem dA_placeAt_8 : decode b_A_placeAt 8 = .ok (.imul, 1) := by decide +kernel
theorem dA_placeAt_9 : decode b_A_placeAt 9 = .ok (.iload_n 3, 1) := by decide +kernel
theorem dA_placeAt_10 : decode b_A_placeAt 10 = .ok (.iload_n 2, 1) := by decide +kernel
theorem dA_placeAt_11 : decode b_A_placeAt 11 = .ok (.isub, 1) := by decide +kernel
theorem dA_placeAt_12 : decode b_A_placeAt 12 = .ok (.iload_n 1, 1) := by decide +kernel
theorem dA_placeAt_13 : decode b_A_placeAt 13 = .ok (.imul, 1) := by decide +kernel
theorem dA_placeAt_14 : decode b_A_placeAt 14 = .ok (.iadd, 1) := by decide +kernel
theorem dA_placeAt_15 : decode b_A_placeAt 15 = .ok (.ireturn, 1) := by decide +kernel
theorem dA_seekIfStale_0 : decode b_A_seekIfStale 0 = .ok (.aload_n 0, 1) := by decide +kernel
theorem dA_seekIfStale_1 : decode b_A_seekIfStale 1 = .ok (.getfield 13, 3) := by decide +kernel
theorem dA_seekIfStale_4 : decode b_A_seekIfStale 4 = .ok (.ifCond .eq 12, 3) := by decide +kernel
theorem dA_seekIfStale_7 : decode b_A_seekIfStale 7 = .ok (.aload_n 0, 1) := by decide +kernel
theorem dA_seekIfStale_8 : decode b_A_seekIfStale 8 = .ok (.invokevirtual 61, 3) := by decide +kernel
theorem dA_seekIfStale_11 : decode b_A_seekIfStale 11 = .ok (.aload_n 0, 1) := by decide +kernel
theorem dA_seekIfStale_12 : decode b_A_seekIfStale 12 = .ok (.iconst 0, 1) := by decide +kernel
theorem dA_seekIfStale_13 : decode b_A_seekIfStale 13 = .ok (.putfield 13, 3) := by decide +kernel
theorem dA_seekIfStale_16 : decode b_A_seekIfStale 16 = .ok (.return_, 1) := by decide +kernel
theorem dA_seek_0 : decode b_A_seek 0 = .ok (.aload_n 0, 1) := by decide +kernel
theorem dA_seek_1 : decode b_A_seek 1 = .ok (.iconst 0, 1) := by decide +kernel
theorem dA_seek_2 : decode b_A_seek 2 = .ok (.iconst 0, 1) := by decide +kernel
theorem dA_seek_3 : decode b_A_seek 3 = .ok (.iconst 0, 1) := by decide +kernel
theorem dA_seek_4 : decode b_A_seek 4 = .ok (.iconst 0, 1) := by decide +kernel
theorem dA_seek_5 : decode b_A_seek 5 = .ok (.iconst 0, 1) := by decide +kernel
theorem dA_seek_6 : decode b_A_seek 6 = .ok (.invokevirtual 64, 3) := by decide +kernel
theorem dA_seek_9 : decode b_A_seek 9 = .ok (.iconst 0, 1) := by decide +kernel
theorem dA_seek_10 : decode b_A_seek 10 = .ok (.istore_n 1, 1) := by decide +kernel
theorem dA_seek_11 : decode b_A_seek 11 = .ok (.iload_n 1, 1) := by decide +kernel
theorem dA_seek_12 : decode b_A_seek 12 = .ok (.aload_n 0, 1) := by decide +kernel
theorem dA_seek_13 : decode b_A_seek 13 = .ok (.getfield 17, 3) := by decide +kernel
theorem dA_seek_16 : decode b_A_seek 16 = .ok (.invokevirtual 68, 3) := by decide +kernel
theorem dA_seek_19 : decode b_A_seek 19 = .ok (.if_icmp .gt 67, 3) := by decide +kernel
theorem dA_seek_22 : decode b_A_seek 22 = .ok (.iconst 0, 1) := by decide +kernel
theorem dA_seek_23 : decode b_A_seek 23 = .ok (.istore_n 2, 1) := by decide +kernel
theorem dA_seek_24 : decode b_A_seek 24 = .ok (.iload_n 2, 1) := by decide +kernel
theorem dA_seek_25 : decode b_A_seek 25 = .ok (.aload_n 0, 1) := by decide +kernel
theorem dA_seek_26 : decode b_A_seek 26 = .ok (.getfield 17, 3) := by decide +kernel
theorem dA_seek_29 : decode b_A_seek 29 = .ok (.invokevirtual 68, 3) := by decide +kernel
theorem dA_seek_32 : decode b_A_seek 32 = .ok (.if_icmp .gt 48, 3) := by decide +kernel
theorem dA_seek_35 : decode b_A_seek 35 = .ok (.aload_n 0, 1) := by decide +kernel
theorem dA_seek_36 : decode b_A_seek 36 = .ok (.getfield 17, 3) := by decide +kernel
theorem dA_seek_39 : decode b_A_seek 39 = .ok (.iconst 0, 1) := by decide +kernel
theorem dA_seek_40 : decode b_A_seek 40 = .ok (.iload_n 1, 1) := by decide +kernel
theorem dA_seek_41 : decode b_A_seek 41 = .ok (.aload_n 0, 1) := by decide +kernel
theorem dA_seek_42 : decode b_A_seek 42 = .ok (.getfield 17, 3) := by decide +kernel
theorem dA_seek_45 : decode b_A_seek 45 = .ok (.invokevirtual 32, 3) := by decide +kernel
theorem dA_seek_48 : decode b_A_seek 48 = .ok (.imul, 1) := by decide +kernel
theorem dA_seek_49 : decode b_A_seek 49 = .ok (.iload_n 2, 1) := by decide +kernel
theorem dA_seek_50 : decode b_A_seek 50 = .ok (.aload_n 0, 1) := by decide +kernel
theorem dA_seek_51 : decode b_A_seek 51 = .ok (.getfield 17, 3) := by decide +kernel
theorem dA_seek_54 : decode b_A_seek 54 = .ok (.invokevirtual 32, 3) := by decide +kernel
theorem dA_seek_57 : decode b_A_seek 57 = .ok (.imul, 1) := by decide +kernel
theorem dA_seek_58 : decode b_A_seek 58 = .ok (.invokevirtual 52, 3) := by decide +kernel
theorem dA_seek_61 : decode b_A_seek 61 = .ok (.aload_n 0, 1) := by decide +kernel
theorem dA_seek_62 : decode b_A_seek 62 = .ok (.getfield 24, 3) := by decide +kernel
theorem dA_seek_65 : decode b_A_seek 65 = .ok (.if_icmp .le 9, 3) := by decide +kernel
theorem dA_seek_68 : decode b_A_seek 68 = .ok (.aload_n 0, 1) := by decide +kernel
theorem dA_seek_69 : decode b_A_seek 69 = .ok (.iload_n 1, 1) := by decide +kernel
theorem dA_seek_70 : decode b_A_seek 70 = .ok (.iload_n 2, 1) := by decide +kernel
theorem dA_seek_71 : decode b_A_seek 71 = .ok (.invokevirtual 71, 3) := by decide +kernel
theorem dA_seek_74 : decode b_A_seek 74 = .ok (.iinc 2 1, 3) := by decide +kernel
theorem dA_seek_77 : decode b_A_seek 77 = .ok (.goto (-53), 3) := by decide +kernel
theorem dA_seek_80 : decode b_A_seek 80 = .ok (.iinc 1 1, 3) := by decide +kernel
theorem dA_seek_83 : decode b_A_seek 83 = .ok (.goto (-72), 3) := by decide +kernel
theorem dA_seek_86 : decode b_A_seek 86 = .ok (.return_, 1) := by decide +kernel
theorem dA_seekFrom_0 : decode b_A_seekFrom 0 = .ok (.iconst 0, 1) := by decide +kernel
theorem dA_seekFrom_1 : decode b_A_seekFrom 1 = .ok (.istore_n 3, 1) := by decide +kernel
theorem dA_seekFrom_2 : decode b_A_seekFrom 2 = .ok (.iload_n 3, 1) := by decide +kernel
theorem dA_seekFrom_3 : decode b_A_seekFrom 3 = .ok (.aload_n 0, 1) := by decide +kernel
theorem dA_seekFrom_4 : decode b_A_seekFrom 4 = .ok (.getfield 17, 3) := by decide +kernel
theorem dA_seekFrom_7 : decode b_A_seekFrom 7 = .ok (.invokevirtual 68, 3) := by decide +kernel
theorem dA_seekFrom_10 : decode b_A_seekFrom 10 = .ok (.if_icmp .gt 65, 3) := by decide +kernel
theorem dA_seekFrom_13 : decode b_A_seekFrom 13 = .ok (.iconst 0, 1) := by decide +kernel
theorem dA_seekFrom_14 : decode b_A_seekFrom 14 = .ok (.istore 4, 2) := by decide +kernel
theorem dA_seekFrom_16 : decode b_A_seekFrom 16 = .ok (.iload 4, 2) := by decide +kernel
theorem dA_seekFrom_18 : decode b_A_seekFrom 18 = .ok (.aload_n 0, 1) := by decide +kernel
theorem dA_seekFrom_19 : decode b_A_seekFrom 19 = .ok (.getfield 17, 3) := by decide +kernel
theorem dA_seekFrom_22 : decode b_A_seekFrom 22 = .ok (.invokevirtual 68, 3) := by decide +kernel
theorem dA_seekFrom_25 : decode b_A_seekFrom 25 = .ok (.if_icmp .gt 44, 3) := by decide +kernel
theorem dA_seekFrom_28 : decode b_A_seekFrom 28 = .ok (.aload_n 0, 1) := by decide +kernel
theorem dA_seekFrom_29 : decode b_A_seekFrom 29 = .ok (.aload_n 0, 1) := by decide +kernel
theorem dA_seekFrom_30 : decode b_A_seekFrom 30 = .ok (.getfield 24, 3) := by decide +kernel
theorem dA_seekFrom_33 : decode b_A_seekFrom 33 = .ok (.iload_n 1, 1) := by decide +kernel
theorem dA_seekFrom_34 : decode b_A_seekFrom 34 = .ok (.iload_n 2, 1) := by decide +kernel
theorem dA_seekFrom_35 : decode b_A_seekFrom 35 = .ok (.iload_n 3, 1) := by decide +kernel
theorem dA_seekFrom_36 : decode b_A_seekFrom 36 = .ok (.iload 4, 2) := by decide +kernel
theorem dA_seekFrom_38 : decode b_A_seekFrom 38 = .ok (.invokevirtual 38, 3) := by decide +kernel
theorem dA_seekFrom_41 : decode b_A_seekFrom 41 = .ok (.istore 5, 2) := by decide +kernel
theorem dA_seekFrom_43 : decode b_A_seekFrom 43 = .ok (.iload 5, 2) := by decide +kernel
theorem dA_seekFrom_45 : decode b_A_seekFrom 45 = .ok (.aload_n 0, 1) := by decide +kernel
theorem dA_seekFrom_46 : decode b_A_seekFrom 46 = .ok (.getfield 24, 3) := by decide +kernel
theorem dA_seekFrom_49 : decode b_A_seekFrom 49 = .ok (.if_icmp .le 14, 3) := by decide +kernel
theorem dA_seekFrom_52 : decode b_A_seekFrom 52 = .ok (.aload_n 0, 1) := by decide +kernel
theorem dA_seekFrom_53 : decode b_A_seekFrom 53 = .ok (.iload 5, 2) := by decide +kernel
theorem dA_seekFrom_55 : decode b_A_seekFrom 55 = .ok (.iload_n 1, 1) := by decide +kernel
theorem dA_seekFrom_56 : decode b_A_seekFrom 56 = .ok (.iload_n 2, 1) := by decide +kernel
theorem dA_seekFrom_57 : decode b_A_seekFrom 57 = .ok (.iload_n 3, 1) := by decide +kernel
theorem dA_seekFrom_58 : decode b_A_seekFrom 58 = .ok (.iload 4, 2) := by decide +kernel
theorem dA_seekFrom_60 : decode b_A_seekFrom 60 = .ok (.invokevirtual 64, 3) := by decide +kernel
theorem dA_seekFrom_63 : decode b_A_seekFrom 63 = .ok (.iinc 4 1, 3) := by decide +kernel
theorem dA_seekFrom_66 : decode b_A_seekFrom 66 = .ok (.goto (-50), 3) := by decide +kernel
theorem dA_seekFrom_69 : decode b_A_seekFrom 69 = .ok (.iinc 3 1, 3) := by decide +kernel
theorem dA_seekFrom_72 : decode b_A_seekFrom 72 = .ok (.goto (-70), 3) := by decide +kernel
theorem dA_seekFrom_75 : decode b_A_seekFrom 75 = .ok (.return_, 1) := by decide +kernel
theorem dA_keep_0 : decode b_A_keep 0 = .ok (.aload_n 0, 1) := by decide +kernel
theorem dA_keep_1 : decode b_A_keep 1 = .ok (.iload_n 1, 1) := by decide +kernel
theorem dA_keep_2 : decode b_A_keep 2 = .ok (.putfield 24, 3) := by decide +kernel
theorem dA_keep_5 : decode b_A_keep 5 = .ok (.aload_n 0, 1) := by decide +kernel
theorem dA_keep_6 : decode b_A_keep 6 = .ok (.getfield 7, 3) := by decide +kernel
theorem dA_keep_9 : decode b_A_keep 9 = .ok (.iconst 0, 1) := by decide +kernel
theorem dA_keep_10 : decode b_A_keep 10 = .ok (.iload_n 2, 1) := by decide +kernel
theorem dA_keep_11 : decode b_A_keep 11 = .ok (.iastore, 1) := by decide +kernel
theorem dA_keep_12 : decode b_A_keep 12 = .ok (.aload_n 0, 1) := by decide +kernel
theorem dA_keep_13 : decode b_A_keep 13 = .ok (.getfield 7, 3) := by decide +kernel
theorem dA_keep_16 : decode b_A_keep 16 = .ok (.iconst 1, 1) := by decide +kernel
theorem dA_keep_17 : decode b_A_keep 17 = .ok (.iload_n 3, 1) := by decide +kernel
theorem dA_keep_18 : decode b_A_keep 18 = .ok (.iastore, 1) := by decide +kernel
theorem dA_keep_19 : decode b_A_keep 19 = .ok (.aload_n 0, 1) := by decide +kernel
theorem dA_keep_20 : decode b_A_keep 20 = .ok (.getfield 7, 3) := by decide +kernel
theorem dA_keep_23 : decode b_A_keep 23 = .ok (.iconst 2, 1) := by decide +kernel
theorem dA_keep_24 : decode b_A_keep 24 = .ok (.iload 4, 2) := by decide +kernel
theorem dA_keep_26 : decode b_A_keep 26 = .ok (.iastore, 1) := by decide +kernel
theorem dA_keep_27 : decode b_A_keep 27 = .ok (.aload_n 0, 1) := by decide +kernel
theorem dA_keep_28 : decode b_A_keep 28 = .ok (.getfield 7, 3) := by decide +kernel
theorem dA_keep_31 : decode b_A_keep 31 = .ok (.iconst 3, 1) := by decide +kernel
theorem dA_keep_32 : decode b_A_keep 32 = .ok (.iload 5, 2) := by decide +kernel
theorem dA_keep_34 : decode b_A_keep 34 = .ok (.iastore, 1) := by decide +kernel
theorem dA_keep_35 : decode b_A_keep 35 = .ok (.return_, 1) := by decide +kernel
theorem dA_rootOf_0 : decode b_A_rootOf 0 = .ok (.iconst 0, 1) := by decide +kernel
theorem dA_rootOf_1 : decode b_A_rootOf 1 = .ok (.istore_n 1, 1) := by decide +kernel
theorem dA_rootOf_2 : decode b_A_rootOf 2 = .ok (.sipush 1024, 3) := by decide +kernel
theorem dA_rootOf_5 : decode b_A_rootOf 5 = .ok (.istore_n 2, 1) := by decide +kernel
theorem dA_rootOf_6 : decode b_A_rootOf 6 = .ok (.iload_n 2, 1) := by decide +kernel
theorem dA_rootOf_7 : decode b_A_rootOf 7 = .ok (.ifCond .le 23, 3) := by decide +kernel
theorem dA_rootOf_10 : decode b_A_rootOf 10 = .ok (.iload_n 1, 1) := by decide +kernel
theorem dA_rootOf_11 : decode b_A_rootOf 11 = .ok (.iload_n 2, 1) := by decide +kernel
theorem dA_rootOf_12 : decode b_A_rootOf 12 = .ok (.iadd, 1) := by decide +kernel
theorem dA_rootOf_13 : decode b_A_rootOf 13 = .ok (.istore_n 3, 1) := by decide +kernel
theorem dA_rootOf_14 : decode b_A_rootOf 14 = .ok (.iload_n 3, 1) := by decide +kernel
theorem dA_rootOf_15 : decode b_A_rootOf 15 = .ok (.iload_n 3, 1) := by decide +kernel
theorem dA_rootOf_16 : decode b_A_rootOf 16 = .ok (.imul, 1) := by decide +kernel
theorem dA_rootOf_17 : decode b_A_rootOf 17 = .ok (.iload_n 0, 1) := by decide +kernel
theorem dA_rootOf_18 : decode b_A_rootOf 18 = .ok (.if_icmp .gt 5, 3) := by decide +kernel
theorem dA_rootOf_21 : decode b_A_rootOf 21 = .ok (.iload_n 3, 1) := by decide +kernel
theorem dA_rootOf_22 : decode b_A_rootOf 22 = .ok (.istore_n 1, 1) := by decide +kernel
theorem dA_rootOf_23 : decode b_A_rootOf 23 = .ok (.iload_n 2, 1) := by decide +kernel
theorem dA_rootOf_24 : decode b_A_rootOf 24 = .ok (.iconst 1, 1) := by decide +kernel
theorem dA_rootOf_25 : decode b_A_rootOf 25 = .ok (.ishr, 1) := by decide +kernel
theorem dA_rootOf_26 : decode b_A_rootOf 26 = .ok (.istore_n 2, 1) := by decide +kernel
theorem dA_rootOf_27 : decode b_A_rootOf 27 = .ok (.goto (-21), 3) := by decide +kernel
theorem dA_rootOf_30 : decode b_A_rootOf 30 = .ok (.iload_n 1, 1) := by decide +kernel
theorem dA_rootOf_31 : decode b_A_rootOf 31 = .ok (.ireturn, 1) := by decide +kernel
end
section
theorem dR_init_0 : decode b_R_init 0 = .ok (.aload_n 0, 1) := by decide +kernel
theorem dR_init_1 : decode b_R_init 1 = .ok (.invokespecial 3, 3) := by decide +kernel
theorem dR_init_4 : decode b_R_init 4 = .ok (.aload_n 0, 1) := by decide +kernel
theorem dR_init_5 : decode b_R_init 5 = .ok (.iconst 1, 1) := by decide +kernel
theorem dR_init_6 : decode b_R_init 6 = .ok (.putfield 9, 3) := by decide +kernel
theorem dR_init_9 : decode b_R_init 9 = .ok (.return_, 1) := by decide +kernel
theorem dR_peelOff_0 : decode b_R_peelOff 0 = .ok (.aload_n 0, 1) := by decide +kernel
theorem dR_peelOff_1 : decode b_R_peelOff 1 = .ok (.iload_n 1, 1) := by decide +kernel
theorem dR_peelOff_2 : decode b_R_peelOff 2 = .ok (.putfield 15, 3) := by decide +kernel
theorem dR_peelOff_5 : decode b_R_peelOff 5 = .ok (.aload_n 0, 1) := by decide +kernel
theorem dR_peelOff_6 : decode b_R_peelOff 6 = .ok (.iconst 1, 1) := by decide +kernel
theorem dR_peelOff_7 : decode b_R_peelOff 7 = .ok (.iload_n 2, 1) := by decide +kernel
theorem dR_peelOff_8 : decode b_R_peelOff 8 = .ok (.invokestatic 18, 3) := by decide +kernel
theorem dR_peelOff_11 : decode b_R_peelOff 11 = .ok (.putfield 9, 3) := by decide +kernel
theorem dR_peelOff_14 : decode b_R_peelOff 14 = .ok (.aload_n 0, 1) := by decide +kernel
theorem dR_peelOff_15 : decode b_R_peelOff 15 = .ok (.aload_n 0, 1) := by decide +kernel
theorem dR_peelOff_16 : decode b_R_peelOff 16 = .ok (.getfield 15, 3) := by decide +kernel
theorem dR_peelOff_19 : decode b_R_peelOff 19 = .ok (.iload_n 3, 1) := by decide +kernel
theorem dR_peelOff_20 : decode b_R_peelOff 20 = .ok (.if_icmp .ge 7, 3) := by decide +kernel
theorem dR_peelOff_23 : decode b_R_peelOff 23 = .ok (.iconst 0, 1) := by decide +kernel
theorem dR_peelOff_24 : decode b_R_peelOff 24 = .ok (.goto 14, 3) := by decide +kernel
theorem dR_peelOff_27 : decode b_R_peelOff 27 = .ok (.aload_n 0, 1) := by decide +kernel
theorem dR_peelOff_28 : decode b_R_peelOff 28 = .ok (.getfield 15, 3) := by decide +kernel
theorem dR_peelOff_31 : decode b_R_peelOff 31 = .ok (.iload_n 3, 1) := by decide +kernel
theorem dR_peelOff_32 : decode b_R_peelOff 32 = .ok (.isub, 1) := by decide +kernel
theorem dR_peelOff_33 : decode b_R_peelOff 33 = .ok (.aload_n 0, 1) := by decide +kernel
theorem dR_peelOff_34 : decode b_R_peelOff 34 = .ok (.getfield 9, 3) := by decide +kernel
theorem dR_peelOff_37 : decode b_R_peelOff 37 = .ok (.idiv, 1) := by decide +kernel
theorem dR_peelOff_38 : decode b_R_peelOff 38 = .ok (.putfield 24, 3) := by decide +kernel
theorem dR_peelOff_41 : decode b_R_peelOff 41 = .ok (.aload_n 0, 1) := by decide +kernel
theorem dR_peelOff_42 : decode b_R_peelOff 42 = .ok (.iconst 1, 1) := by decide +kernel
theorem dR_peelOff_43 : decode b_R_peelOff 43 = .ok (.putfield 27, 3) := by decide +kernel
theorem dR_peelOff_46 : decode b_R_peelOff 46 = .ok (.return_, 1) := by decide +kernel
theorem dR_forget_0 : decode b_R_forget 0 = .ok (.aload_n 0, 1) := by decide +kernel
theorem dR_forget_1 : decode b_R_forget 1 = .ok (.iconst 0, 1) := by decide +kernel
theorem dR_forget_2 : decode b_R_forget 2 = .ok (.putfield 27, 3) := by decide +kernel
theorem dR_forget_5 : decode b_R_forget 5 = .ok (.return_, 1) := by decide +kernel
theorem dR_isPeeled_0 : decode b_R_isPeeled 0 = .ok (.aload_n 0, 1) := by decide +kernel
theorem dR_isPeeled_1 : decode b_R_isPeeled 1 = .ok (.getfield 27, 3) := by decide +kernel
theorem dR_isPeeled_4 : decode b_R_isPeeled 4 = .ok (.ireturn, 1) := by decide +kernel
theorem dR_turns_0 : decode b_R_turns 0 = .ok (.aload_n 0, 1) := by decide +kernel
theorem dR_turns_1 : decode b_R_turns 1 = .ok (.getfield 24, 3) := by decide +kernel
theorem dR_turns_4 : decode b_R_turns 4 = .ok (.ireturn, 1) := by decide +kernel
theorem dR_length_0 : decode b_R_length 0 = .ok (.aload_n 0, 1) := by decide +kernel
theorem dR_length_1 : decode b_R_length 1 = .ok (.aload_n 0, 1) := by decide +kernel
theorem dR_length_2 : decode b_R_length 2 = .ok (.getfield 24, 3) := by decide +kernel
theorem dR_length_5 : decode b_R_length 5 = .ok (.invokevirtual 31, 3) := by decide +kernel
theorem dR_length_8 : decode b_R_length 8 = .ok (.ireturn, 1) := by decide +kernel
theorem dR_lengthBefore_0 : decode b_R_lengthBefore 0 = .ok (.iload_n 1, 1) := by decide +kernel
theorem dR_lengthBefore_1 : decode b_R_lengthBefore 1 = .ok (.aload_n 0, 1) := by decide +kernel
theorem dR_lengthBefore_2 : decode b_R_lengthBefore 2 = .ok (.getfield 15, 3) := by decide +kernel
theorem dR_lengthBefore_5 : decode b_R_lengthBefore 5 = .ok (.imul, 1) := by decide +kernel
theorem dR_lengthBefore_6 : decode b_R_lengthBefore 6 = .ok (.aload_n 0, 1) := by decide +kernel
theorem dR_lengthBefore_7 : decode b_R_lengthBefore 7 = .ok (.getfield 9, 3) := by decide +kernel
theorem dR_lengthBefore_10 : decode b_R_lengthBefore 10 = .ok (.iload_n 1, 1) := by decide +kernel
theorem dR_lengthBefore_11 : decode b_R_lengthBefore 11 = .ok (.iload_n 1, 1) := by decide +kernel
theorem dR_lengthBefore_12 : decode b_R_lengthBefore 12 = .ok (.iconst 1, 1) := by decide +kernel
theorem dR_lengthBefore_13 : decode b_R_lengthBefore 13 = .ok (.isub, 1) := by decide +kernel
theorem dR_lengthBefore_14 : decode b_R_lengthBefore 14 = .ok (.imul, 1) := by decide +kernel
theorem dR_lengthBefore_15 : decode b_R_lengthBefore 15 = .ok (.iconst 2, 1) := by decide +kernel
theorem dR_lengthBefore_16 : decode b_R_lengthBefore 16 = .ok (.idiv, 1) := by decide +kernel
theorem dR_lengthBefore_17 : decode b_R_lengthBefore 17 = .ok (.imul, 1) := by decide +kernel
theorem dR_lengthBefore_18 : decode b_R_lengthBefore 18 = .ok (.isub, 1) := by decide +kernel
theorem dR_lengthBefore_19 : decode b_R_lengthBefore 19 = .ok (.istore_n 2, 1) := by decide +kernel
theorem dR_lengthBefore_20 : decode b_R_lengthBefore 20 = .ok (.iload_n 2, 1) := by decide +kernel
theorem dR_lengthBefore_21 : decode b_R_lengthBefore 21 = .ok (.invokestatic 35, 3) := by decide +kernel
theorem dR_lengthBefore_24 : decode b_R_lengthBefore 24 = .ok (.ireturn, 1) := by decide +kernel
theorem dR_placeOf_0 : decode b_R_placeOf 0 = .ok (.iload_n 2, 1) := by decide +kernel
theorem dR_placeOf_1 : decode b_R_placeOf 1 = .ok (.aload_n 0, 1) := by decide +kernel
theorem dR_placeOf_2 : decode b_R_placeOf 2 = .ok (.getfield 15, 3) := by decide +kernel
theorem dR_placeOf_5 : decode b_R_placeOf 5 = .ok (.if_icmp .gt 21, 3) := by decide +kernel
theorem dR_placeOf_8 : decode b_R_placeOf 8 = .ok (.iload_n 2, 1) := by decide +kernel
theorem dR_placeOf_9 : decode b_R_placeOf 9 = .ok (.aload_n 0, 1) := by decide +kernel
theorem dR_placeOf_10 : decode b_R_placeOf 10 = .ok (.getfield 15, 3) := by decide +kernel
theorem dR_placeOf_13 : decode b_R_placeOf 13 = .ok (.aload_n 0, 1) := by decide +kernel
theorem dR_placeOf_14 : decode b_R_placeOf 14 = .ok (.getfield 24, 3) := by decide +kernel
theorem dR_placeOf_17 : decode b_R_placeOf 17 = .ok (.aload_n 0, 1) := by decide +kernel
theorem dR_placeOf_18 : decode b_R_placeOf 18 = .ok (.getfield 9, 3) := by decide +kernel
theorem dR_placeOf_21 : decode b_R_placeOf 21 = .ok (.imul, 1) := by decide +kernel
theorem dR_placeOf_22 : decode b_R_placeOf 22 = .ok (.isub, 1) := by decide +kernel
theorem dR_placeOf_23 : decode b_R_placeOf 23 = .ok (.if_icmp .gt 5, 3) := by decide +kernel
theorem dR_placeOf_26 : decode b_R_placeOf 26 = .ok (.iconst (-1), 1) := by decide +kernel
theorem dR_placeOf_27 : decode b_R_placeOf 27 = .ok (.ireturn, 1) := by decide +kernel
theorem dR_placeOf_28 : decode b_R_placeOf 28 = .ok (.aload_n 0, 1) := by decide +kernel
theorem dR_placeOf_29 : decode b_R_placeOf 29 = .ok (.getfield 15, 3) := by decide +kernel
theorem dR_placeOf_32 : decode b_R_placeOf 32 = .ok (.iload_n 2, 1) := by decide +kernel
theorem dR_placeOf_33 : decode b_R_placeOf 33 = .ok (.isub, 1) := by decide +kernel
theorem dR_placeOf_34 : decode b_R_placeOf 34 = .ok (.aload_n 0, 1) := by decide +kernel
theorem dR_placeOf_35 : decode b_R_placeOf 35 = .ok (.getfield 9, 3) := by decide +kernel
theorem dR_placeOf_38 : decode b_R_placeOf 38 = .ok (.idiv, 1) := by decide +kernel
theorem dR_placeOf_39 : decode b_R_placeOf 39 = .ok (.istore_n 3, 1) := by decide +kernel
theorem dR_placeOf_40 : decode b_R_placeOf 40 = .ok (.aload_n 0, 1) := by decide +kernel
theorem dR_placeOf_41 : decode b_R_placeOf 41 = .ok (.iload_n 3, 1) := by decide +kernel
theorem dR_placeOf_42 : decode b_R_placeOf 42 = .ok (.invokevirtual 31, 3) := by decide +kernel
theorem dR_placeOf_45 : decode b_R_placeOf 45 = .ok (.aload_n 0, 1) := by decide +kernel
theorem dR_placeOf_46 : decode b_R_placeOf 46 = .ok (.getfield 15, 3) := by decide +kernel
theorem dR_placeOf_49 : decode b_R_placeOf 49 = .ok (.iload_n 3, 1) := by decide +kernel
theorem dR_placeOf_50 : decode b_R_placeOf 50 = .ok (.aload_n 0, 1) := by decide +kernel
theorem dR_placeOf_51 : decode b_R_placeOf 51 = .ok (.getfield 9, 3) := by decide +kernel
theorem dR_placeOf_54 : decode b_R_placeOf 54 = .ok (.imul, 1) := by decide +kernel
theorem dR_placeOf_55 : decode b_R_placeOf 55 = .ok (.isub, 1) := by decide +kernel
theorem dR_placeOf_56 : decode b_R_placeOf 56 = .ok (.invokestatic 35, 3) := by decide +kernel
theorem dR_placeOf_59 : decode b_R_placeOf 59 = .ok (.iload_n 1, 1) := by decide +kernel
theorem dR_placeOf_60 : decode b_R_placeOf 60 = .ok (.imul, 1) := by decide +kernel
theorem dR_placeOf_61 : decode b_R_placeOf 61 = .ok (.sipush 360, 3) := by decide +kernel
theorem dR_placeOf_64 : decode b_R_placeOf 64 = .ok (.idiv, 1) := by decide +kernel
theorem dR_placeOf_65 : decode b_R_placeOf 65 = .ok (.iadd, 1) := by decide +kernel
theorem dR_placeOf_66 : decode b_R_placeOf 66 = .ok (.ireturn, 1) := by decide +kernel
theorem dR_roundOf_0 : decode b_R_roundOf 0 = .ok (.iload_n 0, 1) := by decide +kernel
theorem dR_roundOf_1 : decode b_R_roundOf 1 = .ok (.sipush 710, 3) := by decide +kernel
theorem dR_roundOf_4 : decode b_R_roundOf 4 = .ok (.imul, 1) := by decide +kernel
theorem dR_roundOf_5 : decode b_R_roundOf 5 = .ok (.bipush 113, 2) := by decide +kernel
theorem dR_roundOf_7 : decode b_R_roundOf 7 = .ok (.idiv, 1) := by decide +kernel
theorem dR_roundOf_8 : decode b_R_roundOf 8 = .ok (.ireturn, 1) := by decide +kernel
end
section
theorem dF_init_0 : decode b_F_init 0 = .ok (.aload_n 0, 1) := by decide +kernel
theorem dF_init_1 : decode b_F_init 1 = .ok (.invokespecial 1, 3) := by decide +kernel
theorem dF_init_4 : decode b_F_init 4 = .ok (.aload_n 0, 1) := by decide +kernel
theorem dF_init_5 : decode b_F_init 5 = .ok (.bipush 16, 2) := by decide +kernel
theorem dF_init_7 : decode b_F_init 7 = .ok (.newarray .int, 2) := by decide +kernel
theorem dF_init_9 : decode b_F_init 9 = .ok (.putfield 9, 3) := by decide +kernel
theorem dF_init_12 : decode b_F_init 12 = .ok (.aload_n 0, 1) := by decide +kernel
theorem dF_init_13 : decode b_F_init 13 = .ok (.bipush 16, 2) := by decide +kernel
theorem dF_init_15 : decode b_F_init 15 = .ok (.newarray .int, 2) := by decide +kernel
theorem dF_init_17 : decode b_F_init 17 = .ok (.putfield 13, 3) := by decide +kernel
theorem dF_init_20 : decode b_F_init 20 = .ok (.aload_n 0, 1) := by decide +kernel
theorem dF_init_21 : decode b_F_init 21 = .ok (.bipush 16, 2) := by decide +kernel
theorem dF_init_23 : decode b_F_init 23 = .ok (.newarray .int, 2) := by decide +kernel
theorem dF_init_25 : decode b_F_init 25 = .ok (.putfield 16, 3) := by decide +kernel
theorem dF_init_28 : decode b_F_init 28 = .ok (.return_, 1) := by decide +kernel
theorem dF_isFull_0 : decode b_F_isFull 0 = .ok (.aload_n 0, 1) := by decide +kernel
theorem dF_isFull_1 : decode b_F_isFull 1 = .ok (.getfield 19, 3) := by decide +kernel
theorem dF_isFull_4 : decode b_F_isFull 4 = .ok (.bipush 16, 2) := by decide +kernel
theorem dF_isFull_6 : decode b_F_isFull 6 = .ok (.if_icmp .lt 7, 3) := by decide +kernel
theorem dF_isFull_9 : decode b_F_isFull 9 = .ok (.iconst 1, 1) := by decide +kernel
theorem dF_isFull_10 : decode b_F_isFull 10 = .ok (.goto 4, 3) := by decide +kernel
theorem dF_isFull_13 : decode b_F_isFull 13 = .ok (.iconst 0, 1) := by decide +kernel
theorem dF_isFull_14 : decode b_F_isFull 14 = .ok (.ireturn, 1) := by decide +kernel
theorem dF_has_0 : decode b_F_has 0 = .ok (.iload_n 1, 1) := by decide +kernel
theorem dF_has_1 : decode b_F_has 1 = .ok (.iconst 0, 1) := by decide +kernel
theorem dF_has_2 : decode b_F_has 2 = .ok (.aload_n 0, 1) := by decide +kernel
theorem dF_has_3 : decode b_F_has 3 = .ok (.getfield 19, 3) := by decide +kernel
theorem dF_has_6 : decode b_F_has 6 = .ok (.iconst 1, 1) := by decide +kernel
theorem dF_has_7 : decode b_F_has 7 = .ok (.isub, 1) := by decide +kernel
theorem dF_has_8 : decode b_F_has 8 = .ok (.invokestatic 23, 3) := by decide +kernel
theorem dF_has_11 : decode b_F_has 11 = .ok (.ireturn, 1) := by decide +kernel
theorem dF_count_0 : decode b_F_count 0 = .ok (.aload_n 0, 1) := by decide +kernel
theorem dF_count_1 : decode b_F_count 1 = .ok (.getfield 19, 3) := by decide +kernel
theorem dF_count_4 : decode b_F_count 4 = .ok (.ireturn, 1) := by decide +kernel
theorem dF_add_0 : decode b_F_add 0 = .ok (.aload_n 0, 1) := by decide +kernel
theorem dF_add_1 : decode b_F_add 1 = .ok (.getfield 9, 3) := by decide +kernel
theorem dF_add_4 : decode b_F_add 4 = .ok (.aload_n 0, 1) := by decide +kernel
theorem dF_add_5 : decode b_F_add 5 = .ok (.getfield 19, 3) := by decide +kernel
theorem dF_add_8 : decode b_F_add 8 = .ok (.iload_n 1, 1) := by decide +kernel
theorem dF_add_9 : decode b_F_add 9 = .ok (.iastore, 1) := by decide +kernel
theorem dF_add_10 : decode b_F_add 10 = .ok (.aload_n 0, 1) := by decide +kernel
theorem dF_add_11 : decode b_F_add 11 = .ok (.getfield 13, 3) := by decide +kernel
theorem dF_add_14 : decode b_F_add 14 = .ok (.aload_n 0, 1) := by decide +kernel
theorem dF_add_15 : decode b_F_add 15 = .ok (.getfield 19, 3) := by decide +kernel
theorem dF_add_18 : decode b_F_add 18 = .ok (.iload_n 2, 1) := by decide +kernel
theorem dF_add_19 : decode b_F_add 19 = .ok (.iastore, 1) := by decide +kernel
theorem dF_add_20 : decode b_F_add 20 = .ok (.aload_n 0, 1) := by decide +kernel
theorem dF_add_21 : decode b_F_add 21 = .ok (.getfield 16, 3) := by decide +kernel
theorem dF_add_24 : decode b_F_add 24 = .ok (.aload_n 0, 1) := by decide +kernel
theorem dF_add_25 : decode b_F_add 25 = .ok (.getfield 19, 3) := by decide +kernel
theorem dF_add_28 : decode b_F_add 28 = .ok (.iload_n 3, 1) := by decide +kernel
theorem dF_add_29 : decode b_F_add 29 = .ok (.iastore, 1) := by decide +kernel
theorem dF_add_30 : decode b_F_add 30 = .ok (.aload_n 0, 1) := by decide +kernel
theorem dF_add_31 : decode b_F_add 31 = .ok (.dup, 1) := by decide +kernel
theorem dF_add_32 : decode b_F_add 32 = .ok (.getfield 19, 3) := by decide +kernel
theorem dF_add_35 : decode b_F_add 35 = .ok (.iconst 1, 1) := by decide +kernel
theorem dF_add_36 : decode b_F_add 36 = .ok (.iadd, 1) := by decide +kernel
theorem dF_add_37 : decode b_F_add 37 = .ok (.putfield 19, 3) := by decide +kernel
theorem dF_add_40 : decode b_F_add 40 = .ok (.aload_n 0, 1) := by decide +kernel
theorem dF_add_41 : decode b_F_add 41 = .ok (.getfield 19, 3) := by decide +kernel
theorem dF_add_44 : decode b_F_add 44 = .ok (.iconst 1, 1) := by decide +kernel
theorem dF_add_45 : decode b_F_add 45 = .ok (.isub, 1) := by decide +kernel
theorem dF_add_46 : decode b_F_add 46 = .ok (.ireturn, 1) := by decide +kernel
theorem dF_kindBit_0 : decode b_F_kindBit 0 = .ok (.iconst 1, 1) := by decide +kernel
theorem dF_kindBit_1 : decode b_F_kindBit 1 = .ok (.aload_n 0, 1) := by decide +kernel
theorem dF_kindBit_2 : decode b_F_kindBit 2 = .ok (.getfield 16, 3) := by decide +kernel
theorem dF_kindBit_5 : decode b_F_kindBit 5 = .ok (.iload_n 1, 1) := by decide +kernel
theorem dF_kindBit_6 : decode b_F_kindBit 6 = .ok (.iaload, 1) := by decide +kernel
theorem dF_kindBit_7 : decode b_F_kindBit 7 = .ok (.ishl, 1) := by decide +kernel
theorem dF_kindBit_8 : decode b_F_kindBit 8 = .ok (.ireturn, 1) := by decide +kernel
theorem dF_placeIn_0 : decode b_F_placeIn 0 = .ok (.aload_n 1, 1) := by decide +kernel
theorem dF_placeIn_1 : decode b_F_placeIn 1 = .ok (.aload_n 0, 1) := by decide +kernel
theorem dF_placeIn_2 : decode b_F_placeIn 2 = .ok (.getfield 9, 3) := by decide +kernel
theorem dF_placeIn_5 : decode b_F_placeIn 5 = .ok (.iload_n 2, 1) := by decide +kernel
theorem dF_placeIn_6 : decode b_F_placeIn 6 = .ok (.iaload, 1) := by decide +kernel
theorem dF_placeIn_7 : decode b_F_placeIn 7 = .ok (.aload_n 0, 1) := by decide +kernel
theorem dF_placeIn_8 : decode b_F_placeIn 8 = .ok (.getfield 13, 3) := by decide +kernel
theorem dF_placeIn_11 : decode b_F_placeIn 11 = .ok (.iload_n 2, 1) := by decide +kernel
theorem dF_placeIn_12 : decode b_F_placeIn 12 = .ok (.iaload, 1) := by decide +kernel
theorem dF_placeIn_13 : decode b_F_placeIn 13 = .ok (.invokevirtual 29, 3) := by decide +kernel
theorem dF_placeIn_16 : decode b_F_placeIn 16 = .ok (.ireturn, 1) := by decide +kernel
end
section
theorem dL_init_0 : decode b_L_init 0 = .ok (.aload_n 0, 1) := by decide +kernel
theorem dL_init_1 : decode b_L_init 1 = .ok (.invokespecial 1, 3) := by decide +kernel
theorem dL_init_4 : decode b_L_init 4 = .ok (.aload_n 0, 1) := by decide +kernel
theorem dL_init_5 : decode b_L_init 5 = .ok (.bipush 6, 2) := by decide +kernel
theorem dL_init_7 : decode b_L_init 7 = .ok (.newarray .int, 2) := by decide +kernel
theorem dL_init_9 : decode b_L_init 9 = .ok (.putfield 9, 3) := by decide +kernel
theorem dL_init_12 : decode b_L_init 12 = .ok (.aload_n 0, 1) := by decide +kernel
theorem dL_init_13 : decode b_L_init 13 = .ok (.bipush 6, 2) := by decide +kernel
theorem dL_init_15 : decode b_L_init 15 = .ok (.newarray .int, 2) := by decide +kernel
theorem dL_init_17 : decode b_L_init 17 = .ok (.putfield 13, 3) := by decide +kernel
theorem dL_init_20 : decode b_L_init 20 = .ok (.aload_n 0, 1) := by decide +kernel
theorem dL_init_21 : decode b_L_init 21 = .ok (.bipush 6, 2) := by decide +kernel
theorem dL_init_23 : decode b_L_init 23 = .ok (.newarray .int, 2) := by decide +kernel
theorem dL_init_25 : decode b_L_init 25 = .ok (.putfield 16, 3) := by decide +kernel
theorem dL_init_28 : decode b_L_init 28 = .ok (.return_, 1) := by decide +kernel
theorem dL_isFull_0 : decode b_L_isFull 0 = .ok (.aload_n 0, 1) := by decide +kernel
theorem dL_isFull_1 : decode b_L_isFull 1 = .ok (.getfield 19, 3) := by decide +kernel
theorem dL_isFull_4 : decode b_L_isFull 4 = .ok (.bipush 6, 2) := by decide +kernel
theorem dL_isFull_6 : decode b_L_isFull 6 = .ok (.if_icmp .lt 7, 3) := by decide +kernel
theorem dL_isFull_9 : decode b_L_isFull 9 = .ok (.iconst 1, 1) := by decide +kernel
theorem dL_isFull_10 : decode b_L_isFull 10 = .ok (.goto 4, 3) := by decide +kernel
theorem dL_isFull_13 : decode b_L_isFull 13 = .ok (.iconst 0, 1) := by decide +kernel
theorem dL_isFull_14 : decode b_L_isFull 14 = .ok (.ireturn, 1) := by decide +kernel
theorem dL_has_0 : decode b_L_has 0 = .ok (.iload_n 1, 1) := by decide +kernel
theorem dL_has_1 : decode b_L_has 1 = .ok (.iconst 0, 1) := by decide +kernel
theorem dL_has_2 : decode b_L_has 2 = .ok (.aload_n 0, 1) := by decide +kernel
theorem dL_has_3 : decode b_L_has 3 = .ok (.getfield 19, 3) := by decide +kernel
theorem dL_has_6 : decode b_L_has 6 = .ok (.iconst 1, 1) := by decide +kernel
theorem dL_has_7 : decode b_L_has 7 = .ok (.isub, 1) := by decide +kernel
theorem dL_has_8 : decode b_L_has 8 = .ok (.invokestatic 23, 3) := by decide +kernel
theorem dL_has_11 : decode b_L_has 11 = .ok (.ireturn, 1) := by decide +kernel
theorem dL_count_0 : decode b_L_count 0 = .ok (.aload_n 0, 1) := by decide +kernel
theorem dL_count_1 : decode b_L_count 1 = .ok (.getfield 19, 3) := by decide +kernel
theorem dL_count_4 : decode b_L_count 4 = .ok (.ireturn, 1) := by decide +kernel
theorem dL_add_0 : decode b_L_add 0 = .ok (.aload_n 0, 1) := by decide +kernel
theorem dL_add_1 : decode b_L_add 1 = .ok (.getfield 9, 3) := by decide +kernel
theorem dL_add_4 : decode b_L_add 4 = .ok (.aload_n 0, 1) := by decide +kernel
theorem dL_add_5 : decode b_L_add 5 = .ok (.getfield 19, 3) := by decide +kernel
theorem dL_add_8 : decode b_L_add 8 = .ok (.iload_n 1, 1) := by decide +kernel
theorem dL_add_9 : decode b_L_add 9 = .ok (.iastore, 1) := by decide +kernel
theorem dL_add_10 : decode b_L_add 10 = .ok (.aload_n 0, 1) := by decide +kernel
theorem dL_add_11 : decode b_L_add 11 = .ok (.getfield 13, 3) := by decide +kernel
theorem dL_add_14 : decode b_L_add 14 = .ok (.aload_n 0, 1) := by decide +kernel
theorem dL_add_15 : decode b_L_add 15 = .ok (.getfield 19, 3) := by decide +kernel
theorem dL_add_18 : decode b_L_add 18 = .ok (.iload_n 2, 1) := by decide +kernel
theorem dL_add_19 : decode b_L_add 19 = .ok (.iastore, 1) := by decide +kernel
theorem dL_add_20 : decode b_L_add 20 = .ok (.aload_n 0, 1) := by decide +kernel
theorem dL_add_21 : decode b_L_add 21 = .ok (.dup, 1) := by decide +kernel
theorem dL_add_22 : decode b_L_add 22 = .ok (.getfield 19, 3) := by decide +kernel
theorem dL_add_25 : decode b_L_add 25 = .ok (.iconst 1, 1) := by decide +kernel
theorem dL_add_26 : decode b_L_add 26 = .ok (.iadd, 1) := by decide +kernel
theorem dL_add_27 : decode b_L_add 27 = .ok (.putfield 19, 3) := by decide +kernel
theorem dL_add_30 : decode b_L_add 30 = .ok (.aload_n 0, 1) := by decide +kernel
theorem dL_add_31 : decode b_L_add 31 = .ok (.getfield 19, 3) := by decide +kernel
theorem dL_add_34 : decode b_L_add 34 = .ok (.iconst 1, 1) := by decide +kernel
theorem dL_add_35 : decode b_L_add 35 = .ok (.isub, 1) := by decide +kernel
theorem dL_add_36 : decode b_L_add 36 = .ok (.ireturn, 1) := by decide +kernel
theorem dL_tellBar_0 : decode b_L_tellBar 0 = .ok (.aload_n 0, 1) := by decide +kernel
theorem dL_tellBar_1 : decode b_L_tellBar 1 = .ok (.iload_n 1, 1) := by decide +kernel
theorem dL_tellBar_2 : decode b_L_tellBar 2 = .ok (.iconst 1, 1) := by decide +kernel
theorem dL_tellBar_3 : decode b_L_tellBar 3 = .ok (.iload_n 2, 1) := by decide +kernel
theorem dL_tellBar_4 : decode b_L_tellBar 4 = .ok (.ishl, 1) := by decide +kernel
theorem dL_tellBar_5 : decode b_L_tellBar 5 = .ok (.invokevirtual 29, 3) := by decide +kernel
theorem dL_tellBar_8 : decode b_L_tellBar 8 = .ok (.iload_n 3, 1) := by decide +kernel
theorem dL_tellBar_9 : decode b_L_tellBar 9 = .ok (.if_icmp .eq 7, 3) := by decide +kernel
theorem dL_tellBar_12 : decode b_L_tellBar 12 = .ok (.iconst 1, 1) := by decide +kernel
theorem dL_tellBar_13 : decode b_L_tellBar 13 = .ok (.goto 4, 3) := by decide +kernel
theorem dL_tellBar_16 : decode b_L_tellBar 16 = .ok (.iconst 0, 1) := by decide +kernel
theorem dL_tellBar_17 : decode b_L_tellBar 17 = .ok (.istore 4, 2) := by decide +kernel
theorem dL_tellBar_19 : decode b_L_tellBar 19 = .ok (.iload 4, 2) := by decide +kernel
theorem dL_tellBar_21 : decode b_L_tellBar 21 = .ok (.ifCond .eq 15, 3) := by decide +kernel
theorem dL_tellBar_24 : decode b_L_tellBar 24 = .ok (.aload_n 0, 1) := by decide +kernel
theorem dL_tellBar_25 : decode b_L_tellBar 25 = .ok (.getfield 16, 3) := by decide +kernel
theorem dL_tellBar_28 : decode b_L_tellBar 28 = .ok (.iload_n 1, 1) := by decide +kernel
theorem dL_tellBar_29 : decode b_L_tellBar 29 = .ok (.dup2, 1) := by decide +kernel
theorem dL_tellBar_30 : decode b_L_tellBar 30 = .ok (.iaload, 1) := by decide +kernel
theorem dL_tellBar_31 : decode b_L_tellBar 31 = .ok (.iconst 1, 1) := by decide +kernel
theorem dL_tellBar_32 : decode b_L_tellBar 32 = .ok (.iload_n 2, 1) := by decide +kernel
theorem dL_tellBar_33 : decode b_L_tellBar 33 = .ok (.ishl, 1) := by decide +kernel
theorem dL_tellBar_34 : decode b_L_tellBar 34 = .ok (.ixor, 1) := by decide +kernel
theorem dL_tellBar_35 : decode b_L_tellBar 35 = .ok (.iastore, 1) := by decide +kernel
theorem dL_tellBar_36 : decode b_L_tellBar 36 = .ok (.iload 4, 2) := by decide +kernel
theorem dL_tellBar_38 : decode b_L_tellBar 38 = .ok (.ireturn, 1) := by decide +kernel
theorem dL_barsAny_0 : decode b_L_barsAny 0 = .ok (.aload_n 0, 1) := by decide +kernel
theorem dL_barsAny_1 : decode b_L_barsAny 1 = .ok (.getfield 16, 3) := by decide +kernel
theorem dL_barsAny_4 : decode b_L_barsAny 4 = .ok (.iload_n 1, 1) := by decide +kernel
theorem dL_barsAny_5 : decode b_L_barsAny 5 = .ok (.iaload, 1) := by decide +kernel
theorem dL_barsAny_6 : decode b_L_barsAny 6 = .ok (.iload_n 2, 1) := by decide +kernel
theorem dL_barsAny_7 : decode b_L_barsAny 7 = .ok (.iand, 1) := by decide +kernel
theorem dL_barsAny_8 : decode b_L_barsAny 8 = .ok (.ifCond .eq 7, 3) := by decide +kernel
theorem dL_barsAny_11 : decode b_L_barsAny 11 = .ok (.iconst 1, 1) := by decide +kernel
theorem dL_barsAny_12 : decode b_L_barsAny 12 = .ok (.goto 4, 3) := by decide +kernel
theorem dL_barsAny_15 : decode b_L_barsAny 15 = .ok (.iconst 0, 1) := by decide +kernel
theorem dL_barsAny_16 : decode b_L_barsAny 16 = .ok (.ireturn, 1) := by decide +kernel
theorem dL_width_0 : decode b_L_width 0 = .ok (.aload_n 0, 1) := by decide +kernel
theorem dL_width_1 : decode b_L_width 1 = .ok (.getfield 9, 3) := by decide +kernel
theorem dL_width_4 : decode b_L_width 4 = .ok (.iload_n 1, 1) := by decide +kernel
theorem dL_width_5 : decode b_L_width 5 = .ok (.iaload, 1) := by decide +kernel
theorem dL_width_6 : decode b_L_width 6 = .ok (.ireturn, 1) := by decide +kernel
theorem dL_worth_0 : decode b_L_worth 0 = .ok (.aload_n 0, 1) := by decide +kernel
theorem dL_worth_1 : decode b_L_worth 1 = .ok (.getfield 13, 3) := by decide +kernel
theorem dL_worth_4 : decode b_L_worth 4 = .ok (.iload_n 1, 1) := by decide +kernel
theorem dL_worth_5 : decode b_L_worth 5 = .ok (.iaload, 1) := by decide +kernel
theorem dL_worth_6 : decode b_L_worth 6 = .ok (.ireturn, 1) := by decide +kernel
end
section
theorem dC_init_0 : decode b_C_init 0 = .ok (.aload_n 0, 1) := by decide +kernel
theorem dC_init_1 : decode b_C_init 1 = .ok (.invokespecial 5, 3) := by decide +kernel
theorem dC_init_4 : decode b_C_init 4 = .ok (.aload_n 0, 1) := by decide +kernel
theorem dC_init_5 : decode b_C_init 5 = .ok (.sipush 2000, 3) := by decide +kernel
theorem dC_init_8 : decode b_C_init 8 = .ok (.newarray .int, 2) := by decide +kernel
theorem dC_init_10 : decode b_C_init 10 = .ok (.putfield 11, 3) := by decide +kernel
theorem dC_init_13 : decode b_C_init 13 = .ok (.aload_n 0, 1) := by decide +kernel
theorem dC_init_14 : decode b_C_init 14 = .ok (.sipush 2001, 3) := by decide +kernel
theorem dC_init_17 : decode b_C_init 17 = .ok (.newarray .long, 2) := by decide +kernel
theorem dC_init_19 : decode b_C_init 19 = .ok (.putfield 15, 3) := by decide +kernel
theorem dC_init_22 : decode b_C_init 22 = .ok (.aload_n 0, 1) := by decide +kernel
theorem dC_init_23 : decode b_C_init 23 = .ok (.sipush 2000, 3) := by decide +kernel
theorem dC_init_26 : decode b_C_init 26 = .ok (.newarray .int, 2) := by decide +kernel
theorem dC_init_28 : decode b_C_init 28 = .ok (.putfield 19, 3) := by decide +kernel
theorem dC_init_31 : decode b_C_init 31 = .ok (.aload_n 0, 1) := by decide +kernel
theorem dC_init_32 : decode b_C_init 32 = .ok (.sipush 2000, 3) := by decide +kernel
theorem dC_init_35 : decode b_C_init 35 = .ok (.newarray .int, 2) := by decide +kernel
theorem dC_init_37 : decode b_C_init 37 = .ok (.putfield 22, 3) := by decide +kernel
theorem dC_init_40 : decode b_C_init 40 = .ok (.aload_n 0, 1) := by decide +kernel
theorem dC_init_41 : decode b_C_init 41 = .ok (.bipush 6, 2) := by decide +kernel
theorem dC_init_43 : decode b_C_init 43 = .ok (.newarray .int, 2) := by decide +kernel
theorem dC_init_45 : decode b_C_init 45 = .ok (.putfield 27, 3) := by decide +kernel
theorem dC_init_48 : decode b_C_init 48 = .ok (.return_, 1) := by decide +kernel
theorem dC_forget_0 : decode b_C_forget 0 = .ok (.aload_n 0, 1) := by decide +kernel
theorem dC_forget_1 : decode b_C_forget 1 = .ok (.iconst 0, 1) := by decide +kernel
theorem dC_forget_2 : decode b_C_forget 2 = .ok (.putfield 30, 3) := by decide +kernel
theorem dC_forget_5 : decode b_C_forget 5 = .ok (.return_, 1) := by decide +kernel
theorem dC_isDone_0 : decode b_C_isDone 0 = .ok (.aload_n 0, 1) := by decide +kernel
theorem dC_isDone_1 : decode b_C_isDone 1 = .ok (.getfield 30, 3) := by decide +kernel
theorem dC_isDone_4 : decode b_C_isDone 4 = .ok (.ireturn, 1) := by decide +kernel
theorem dC_count_0 : decode b_C_count 0 = .ok (.aload_n 0, 1) := by decide +kernel
theorem dC_count_1 : decode b_C_count 1 = .ok (.getfield 34, 3) := by decide +kernel
theorem dC_count_4 : decode b_C_count 4 = .ok (.ireturn, 1) := by decide +kernel
theorem dC_worth_0 : decode b_C_worth 0 = .ok (.aload_n 0, 1) := by decide +kernel
theorem dC_worth_1 : decode b_C_worth 1 = .ok (.getfield 38, 3) := by decide +kernel
theorem dC_worth_4 : decode b_C_worth 4 = .ok (.ireturn, 1) := by decide +kernel
theorem dC_waste_0 : decode b_C_waste 0 = .ok (.aload_n 0, 1) := by decide +kernel
theorem dC_waste_1 : decode b_C_waste 1 = .ok (.getfield 41, 3) := by decide +kernel
theorem dC_waste_4 : decode b_C_waste 4 = .ok (.ireturn, 1) := by decide +kernel
theorem dC_steps_0 : decode b_C_steps 0 = .ok (.aload_n 0, 1) := by decide +kernel
theorem dC_steps_1 : decode b_C_steps 1 = .ok (.getfield 44, 3) := by decide +kernel
theorem dC_steps_4 : decode b_C_steps 4 = .ok (.ireturn, 1) := by decide +kernel
theorem dC_leafOf_0 : decode b_C_leafOf 0 = .ok (.aload_n 0, 1) := by decide +kernel
theorem dC_leafOf_1 : decode b_C_leafOf 1 = .ok (.getfield 19, 3) := by decide +kernel
theorem dC_leafOf_4 : decode b_C_leafOf 4 = .ok (.aload_n 0, 1) := by decide +kernel
theorem dC_leafOf_5 : decode b_C_leafOf 5 = .ok (.getfield 22, 3) := by decide +kernel
theorem dC_leafOf_8 : decode b_C_leafOf 8 = .ok (.iload_n 1, 1) := by decide +kernel
theorem dC_leafOf_9 : decode b_C_leafOf 9 = .ok (.iaload, 1) := by decide +kernel
theorem dC_leafOf_10 : decode b_C_leafOf 10 = .ok (.iaload, 1) := by decide +kernel
theorem dC_leafOf_11 : decode b_C_leafOf 11 = .ok (.ireturn, 1) := by decide +kernel
theorem dC_firstStepOf_0 : decode b_C_firstStepOf 0 = .ok (.aload_n 0, 1) := by decide +kernel
theorem dC_firstStepOf_1 : decode b_C_firstStepOf 1 = .ok (.getfield 22, 3) := by decide +kernel
theorem dC_firstStepOf_4 : decode b_C_firstStepOf 4 = .ok (.iload_n 1, 1) := by decide +kernel
theorem dC_firstStepOf_5 : decode b_C_firstStepOf 5 = .ok (.iaload, 1) := by decide +kernel
theorem dC_firstStepOf_6 : decode b_C_firstStepOf 6 = .ok (.ireturn, 1) := by decide +kernel
theorem dC_cut_0 : decode b_C_cut 0 = .ok (.iconst 1, 1) := by decide +kernel
theorem dC_cut_1 : decode b_C_cut 1 = .ok (.iload 4, 2) := by decide +kernel
theorem dC_cut_3 : decode b_C_cut 3 = .ok (.invokestatic 47, 3) := by decide +kernel
theorem dC_cut_6 : decode b_C_cut 6 = .ok (.istore 5, 2) := by decide +kernel
theorem dC_cut_8 : decode b_C_cut 8 = .ok (.aload_n 0, 1) := by decide +kernel
theorem dC_cut_9 : decode b_C_cut 9 = .ok (.sipush 2000, 3) := by decide +kernel
theorem dC_cut_12 : decode b_C_cut 12 = .ok (.aload_n 1, 1) := by decide +kernel
theorem dC_cut_13 : decode b_C_cut 13 = .ok (.invokevirtual 53, 3) := by decide +kernel
theorem dC_cut_16 : decode b_C_cut 16 = .ok (.iload 5, 2) := by decide +kernel
theorem dC_cut_18 : decode b_C_cut 18 = .ok (.idiv, 1) := by decide +kernel
theorem dC_cut_19 : decode b_C_cut 19 = .ok (.invokestatic 59, 3) := by decide +kernel
theorem dC_cut_22 : decode b_C_cut 22 = .ok (.putfield 44, 3) := by decide +kernel
theorem dC_cut_25 : decode b_C_cut 25 = .ok (.aload_n 0, 1) := by decide +kernel
theorem dC_cut_26 : decode b_C_cut 26 = .ok (.aload_n 1, 1) := by decide +kernel
theorem dC_cut_27 : decode b_C_cut 27 = .ok (.aload_n 2, 1) := by decide +kernel
theorem dC_cut_28 : decode b_C_cut 28 = .ok (.iload 5, 2) := by decide +kernel
theorem dC_cut_30 : decode b_C_cut 30 = .ok (.invokevirtual 62, 3) := by decide +kernel
theorem dC_cut_33 : decode b_C_cut 33 = .ok (.aload_n 0, 1) := by decide +kernel
theorem dC_cut_34 : decode b_C_cut 34 = .ok (.aload_n 3, 1) := by decide +kernel
theorem dC_cut_35 : decode b_C_cut 35 = .ok (.invokevirtual 66, 3) := by decide +kernel
theorem dC_cut_38 : decode b_C_cut 38 = .ok (.aload_n 0, 1) := by decide +kernel
theorem dC_cut_39 : decode b_C_cut 39 = .ok (.aload_n 3, 1) := by decide +kernel
theorem dC_cut_40 : decode b_C_cut 40 = .ok (.invokevirtual 70, 3) := by decide +kernel
theorem dC_cut_43 : decode b_C_cut 43 = .ok (.aload_n 0, 1) := by decide +kernel
theorem dC_cut_44 : decode b_C_cut 44 = .ok (.iconst 1, 1) := by decide +kernel
theorem dC_cut_45 : decode b_C_cut 45 = .ok (.putfield 30, 3) := by decide +kernel
theorem dC_cut_48 : decode b_C_cut 48 = .ok (.return_, 1) := by decide +kernel
theorem dC_markFaults_0 : decode b_C_markFaults 0 = .ok (.iconst 0, 1) := by decide +kernel
theorem dC_markFaults_1 : decode b_C_markFaults 1 = .ok (.istore 4, 2) := by decide +kernel
theorem dC_markFaults_3 : decode b_C_markFaults 3 = .ok (.iload 4, 2) := by decide +kernel
theorem dC_markFaults_5 : decode b_C_markFaults 5 = .ok (.aload_n 0, 1) := by decide +kernel
theorem dC_markFaults_6 : decode b_C_markFaults 6 = .ok (.getfield 44, 3) := by decide +kernel
theorem dC_markFaults_9 : decode b_C_markFaults 9 = .ok (.if_icmp .ge 17, 3) := by decide +kernel
theorem dC_markFaults_12 : decode b_C_markFaults 12 = .ok (.aload_n 0, 1) := by decide +kernel
theorem dC_markFaults_13 : decode b_C_markFaults 13 = .ok (.getfield 11, 3) := by decide +kernel
theorem dC_markFaults_16 : decode b_C_markFaults 16 = .ok (.iload 4, 2) := by decide +kernel
theorem dC_markFaults_18 : decode b_C_markFaults 18 = .ok (.iconst 0, 1) := by decide +kernel
theorem dC_markFaults_19 : decode b_C_markFaults 19 = .ok (.iastore, 1) := by decide +kernel
theorem dC_markFaults_20 : decode b_C_markFaults 20 = .ok (.iinc 4 1, 3) := by decide +kernel
theorem dC_markFaults_23 : decode b_C_markFaults 23 = .ok (.goto (-20), 3) := by decide +kernel
theorem dC_markFaults_26 : decode b_C_markFaults 26 = .ok (.iconst 0, 1) := by decide +kernel
theorem dC_markFaults_27 : decode b_C_markFaults 27 = .ok (.istore 4, 2) := by decide +kernel
theorem dC_markFaults_29 : decode b_C_markFaults 29 = .ok (.iload 4, 2) := by decide +kernel
theorem dC_markFaults_31 : decode b_C_markFaults 31 = .ok (.aload_n 2, 1) := by decide +kernel
theorem dC_markFaults_32 : decode b_C_markFaults 32 = .ok (.invokevirtual 73, 3) := by decide +kernel
theorem dC_markFaults_35 : decode b_C_markFaults 35 = .ok (.if_icmp .ge 53, 3) := by decide +kernel
theorem dC_markFaults_38 : decode b_C_markFaults 38 = .ok (.aload_n 2, 1) := by decide +kernel
theorem dC_markFaults_39 : decode b_C_markFaults 39 = .ok (.aload_n 1, 1) := by decide +kernel
theorem dC_markFaults_40 : decode b_C_markFaults 40 = .ok (.iload 4, 2) := by decide +kernel
theorem dC_markFaults_42 : decode b_C_markFaults 42 = .ok (.invokevirtual 77, 3) := by decide +kernel
theorem dC_markFaults_45 : decode b_C_markFaults 45 = .ok (.istore 5, 2) := by decide +kernel
theorem dC_markFaults_47 : decode b_C_markFaults 47 = .ok (.iload 5, 2) := by decide +kernel
theorem dC_markFaults_49 : decode b_C_markFaults 49 = .ok (.iconst (-1), 1) := by decide +kernel
theorem dC_markFaults_50 : decode b_C_markFaults 50 = .ok (.if_icmp .eq 32, 3) := by decide +kernel
theorem dC_markFaults_53 : decode b_C_markFaults 53 = .ok (.iload 5, 2) := by decide +kernel
theorem dC_markFaults_55 : decode b_C_markFaults 55 = .ok (.iload_n 3, 1) := by decide +kernel
theorem dC_markFaults_56 : decode b_C_markFaults 56 = .ok (.idiv, 1) := by decide +kernel
theorem dC_markFaults_57 : decode b_C_markFaults 57 = .ok (.aload_n 0, 1) := by decide +kernel
theorem dC_markFaults_58 : decode b_C_markFaults 58 = .ok (.getfield 44, 3) := by decide +kernel
theorem dC_markFaults_61 : decode b_C_markFaults 61 = .ok (.if_icmp .ge 21, 3) := by decide +kernel
theorem dC_markFaults_64 : decode b_C_markFaults 64 = .ok (.aload_n 0, 1) := by decide +kernel
theorem dC_markFaults_65 : decode b_C_markFaults 65 = .ok (.getfield 11, 3) := by decide +kernel
theorem dC_markFaults_68 : decode b_C_markFaults 68 = .ok (.iload 5, 2) := by decide +kernel
theorem dC_markFaults_70 : decode b_C_markFaults 70 = .ok (.iload_n 3, 1) := by decide +kernel
theorem dC_markFaults_71 : decode b_C_markFaults 71 = .ok (.idiv, 1) := by decide +kernel
theorem dC_markFaults_72 : decode b_C_markFaults 72 = .ok (.dup2, 1) := by decide +kernel
theorem dC_markFaults_73 : decode b_C_markFaults 73 = .ok (.iaload, 1) := by decide +kernel
theorem dC_markFaults_74 : decode b_C_markFaults 74 = .ok (.aload_n 2, 1) := by decide +kernel
theorem dC_markFaults_75 : decode b_C_markFaults 75 = .ok (.iload 4, 2) := by decide +kernel
theorem dC_markFaults_77 : decode b_C_markFaults 77 = .ok (.invokevirtual 81, 3) := by decide +kernel
theorem dC_markFaults_80 : decode b_C_markFaults 80 = .ok (.ior, 1) := by decide +kernel
theorem dC_markFaults_81 : decode b_C_markFaults 81 = .ok (.iastore, 1) := by decide +kernel
theorem dC_markFaults_82 : decode b_C_markFaults 82 = .ok (.iinc 4 1, 3) := by decide +kernel
theorem dC_markFaults_85 : decode b_C_markFaults 85 = .ok (.goto (-56), 3) := by decide +kernel
theorem dC_markFaults_88 : decode b_C_markFaults 88 = .ok (.return_, 1) := by decide +kernel
theorem dC_chooseFromTheEnd_0 : decode b_C_chooseFromTheEnd 0 = .ok (.iconst 0, 1) := by decide +kernel
theorem dC_chooseFromTheEnd_1 : decode b_C_chooseFromTheEnd 1 = .ok (.istore_n 2, 1) := by decide +kernel
theorem dC_chooseFromTheEnd_2 : decode b_C_chooseFromTheEnd 2 = .ok (.iload_n 2, 1) := by decide +kernel
theorem dC_chooseFromTheEnd_3 : decode b_C_chooseFromTheEnd 3 = .ok (.aload_n 1, 1) := by decide +kernel
theorem dC_chooseFromTheEnd_4 : decode b_C_chooseFromTheEnd 4 = .ok (.invokevirtual 85, 3) := by decide +kernel
theorem dC_chooseFromTheEnd_7 : decode b_C_chooseFromTheEnd 7 = .ok (.if_icmp .ge 19, 3) := by decide +kernel
theorem dC_chooseFromTheEnd_10 : decode b_C_chooseFromTheEnd 10 = .ok (.aload_n 0, 1) := by decide +kernel
theorem dC_chooseFromTheEnd_11 : decode b_C_chooseFromTheEnd 11 = .ok (.getfield 27, 3) := by decide +kernel
theorem dC_chooseFromTheEnd_14 : decode b_C_chooseFromTheEnd 14 = .ok (.iload_n 2, 1) := by decide +kernel
theorem dC_chooseFromTheEnd_15 : decode b_C_chooseFromTheEnd 15 = .ok (.aload_n 0, 1) := by decide +kernel
theorem dC_chooseFromTheEnd_16 : decode b_C_chooseFromTheEnd 16 = .ok (.getfield 44, 3) := by decide +kernel
theorem dC_chooseFromTheEnd_19 : decode b_C_chooseFromTheEnd 19 = .ok (.iastore, 1) := by decide +kernel
theorem dC_chooseFromTheEnd_20 : decode b_C_chooseFromTheEnd 20 = .ok (.iinc 2 1, 3) := by decide +kernel
theorem dC_chooseFromTheEnd_23 : decode b_C_chooseFromTheEnd 23 = .ok (.goto (-21), 3) := by decide +kernel
theorem dC_chooseFromTheEnd_26 : decode b_C_chooseFromTheEnd 26 = .ok (.aload_n 0, 1) := by decide +kernel
theorem dC_chooseFromTheEnd_27 : decode b_C_chooseFromTheEnd 27 = .ok (.getfield 15, 3) := by decide +kernel
theorem dC_chooseFromTheEnd_30 : decode b_C_chooseFromTheEnd 30 = .ok (.aload_n 0, 1) := by decide +kernel
theorem dC_chooseFromTheEnd_31 : decode b_C_chooseFromTheEnd 31 = .ok (.getfield 44, 3) := by decide +kernel
theorem dC_chooseFromTheEnd_34 : decode b_C_chooseFromTheEnd 34 = .ok (.lconst 0, 1) := by decide +kernel
theorem dC_chooseFromTheEnd_35 : decode b_C_chooseFromTheEnd 35 = .ok (.lastore, 1) := by decide +kernel
theorem dC_chooseFromTheEnd_36 : decode b_C_chooseFromTheEnd 36 = .ok (.aload_n 0, 1) := by decide +kernel
theorem dC_chooseFromTheEnd_37 : decode b_C_chooseFromTheEnd 37 = .ok (.getfield 44, 3) := by decide +kernel
theorem dC_chooseFromTheEnd_40 : decode b_C_chooseFromTheEnd 40 = .ok (.iconst 1, 1) := by decide +kernel
theorem dC_chooseFromTheEnd_41 : decode b_C_chooseFromTheEnd 41 = .ok (.isub, 1) := by decide +kernel
theorem dC_chooseFromTheEnd_42 : decode b_C_chooseFromTheEnd 42 = .ok (.istore_n 2, 1) := by decide +kernel
theorem dC_chooseFromTheEnd_43 : decode b_C_chooseFromTheEnd 43 = .ok (.iload_n 2, 1) := by decide +kernel
theorem dC_chooseFromTheEnd_44 : decode b_C_chooseFromTheEnd 44 = .ok (.ifCond .lt 15, 3) := by decide +kernel
theorem dC_chooseFromTheEnd_47 : decode b_C_chooseFromTheEnd 47 = .ok (.aload_n 0, 1) := by decide +kernel
theorem dC_chooseFromTheEnd_48 : decode b_C_chooseFromTheEnd 48 = .ok (.iload_n 2, 1) := by decide +kernel
theorem dC_chooseFromTheEnd_49 : decode b_C_chooseFromTheEnd 49 = .ok (.aload_n 1, 1) := by decide +kernel
theorem dC_chooseFromTheEnd_50 : decode b_C_chooseFromTheEnd 50 = .ok (.invokevirtual 86, 3) := by decide +kernel
theorem dC_chooseFromTheEnd_53 : decode b_C_chooseFromTheEnd 53 = .ok (.iinc 2 (-1), 3) := by decide +kernel
theorem dC_chooseFromTheEnd_56 : decode b_C_chooseFromTheEnd 56 = .ok (.goto (-13), 3) := by decide +kernel
theorem dC_chooseFromTheEnd_59 : decode b_C_chooseFromTheEnd 59 = .ok (.return_, 1) := by decide +kernel
theorem dC_chooseAt_0 : decode b_C_chooseAt 0 = .ok (.aload_n 0, 1) := by decide +kernel
theorem dC_chooseAt_1 : decode b_C_chooseAt 1 = .ok (.getfield 15, 3) := by decide +kernel
theorem dC_chooseAt_4 : decode b_C_chooseAt 4 = .ok (.iload_n 1, 1) := by decide +kernel
theorem dC_chooseAt_5 : decode b_C_chooseAt 5 = .ok (.aload_n 0, 1) := by decide +kernel
theorem dC_chooseAt_6 : decode b_C_chooseAt 6 = .ok (.getfield 15, 3) := by decide +kernel
theorem dC_chooseAt_9 : decode b_C_chooseAt 9 = .ok (.iload_n 1, 1) := by decide +kernel
theorem dC_chooseAt_10 : decode b_C_chooseAt 10 = .ok (.iconst 1, 1) := by decide +kernel
theorem dC_chooseAt_11 : decode b_C_chooseAt 11 = .ok (.iadd, 1) := by decide +kernel
theorem dC_chooseAt_12 : decode b_C_chooseAt 12 = .ok (.laload, 1) := by decide +kernel
theorem dC_chooseAt_13 : decode b_C_chooseAt 13 = .ok (.lconst 1, 1) := by decide +kernel
theorem dC_chooseAt_14 : decode b_C_chooseAt 14 = .ok (.lsub, 1) := by decide +kernel
theorem dC_chooseAt_15 : decode b_C_chooseAt 15 = .ok (.lastore, 1) := by decide +kernel
theorem dC_chooseAt_16 : decode b_C_chooseAt 16 = .ok (.aload_n 0, 1) := by decide +kernel
theorem dC_chooseAt_17 : decode b_C_chooseAt 17 = .ok (.getfield 19, 3) := by decide +kernel
theorem dC_chooseAt_20 : decode b_C_chooseAt 20 = .ok (.iload_n 1, 1) := by decide +kernel
theorem dC_chooseAt_21 : decode b_C_chooseAt 21 = .ok (.iconst (-1), 1) := by decide +kernel
theorem dC_chooseAt_22 : decode b_C_chooseAt 22 = .ok (.iastore, 1) := by decide +kernel
theorem dC_chooseAt_23 : decode b_C_chooseAt 23 = .ok (.aload_n 2, 1) := by decide +kernel
theorem dC_chooseAt_24 : decode b_C_chooseAt 24 = .ok (.invokevirtual 85, 3) := by decide +kernel
theorem dC_chooseAt_27 : decode b_C_chooseAt 27 = .ok (.iconst 1, 1) := by decide +kernel
theorem dC_chooseAt_28 : decode b_C_chooseAt 28 = .ok (.isub, 1) := by decide +kernel
theorem dC_chooseAt_29 : decode b_C_chooseAt 29 = .ok (.istore_n 3, 1) := by decide +kernel
theorem dC_chooseAt_30 : decode b_C_chooseAt 30 = .ok (.iload_n 3, 1) := by decide +kernel
theorem dC_chooseAt_31 : decode b_C_chooseAt 31 = .ok (.ifCond .lt 74, 3) := by decide +kernel
theorem dC_chooseAt_34 : decode b_C_chooseAt 34 = .ok (.aload_n 2, 1) := by decide +kernel
theorem dC_chooseAt_35 : decode b_C_chooseAt 35 = .ok (.iload_n 3, 1) := by decide +kernel
theorem dC_chooseAt_36 : decode b_C_chooseAt 36 = .ok (.aload_n 0, 1) := by decide +kernel
theorem dC_chooseAt_37 : decode b_C_chooseAt 37 = .ok (.getfield 11, 3) := by decide +kernel
theorem dC_chooseAt_40 : decode b_C_chooseAt 40 = .ok (.iload_n 1, 1) := by decide +kernel
theorem dC_chooseAt_41 : decode b_C_chooseAt 41 = .ok (.iaload, 1) := by decide +kernel
theorem dC_chooseAt_42 : decode b_C_chooseAt 42 = .ok (.invokevirtual 90, 3) := by decide +kernel
theorem dC_chooseAt_45 : decode b_C_chooseAt 45 = .ok (.ifCond .eq 10, 3) := by decide +kernel
theorem dC_chooseAt_48 : decode b_C_chooseAt 48 = .ok (.aload_n 0, 1) := by decide +kernel
theorem dC_chooseAt_49 : decode b_C_chooseAt 49 = .ok (.getfield 27, 3) := by decide +kernel
theorem dC_chooseAt_52 : decode b_C_chooseAt 52 = .ok (.iload_n 3, 1) := by decide +kernel
theorem dC_chooseAt_53 : decode b_C_chooseAt 53 = .ok (.iload_n 1, 1) := by decide +kernel
theorem dC_chooseAt_54 : decode b_C_chooseAt 54 = .ok (.iastore, 1) := by decide +kernel
theorem dC_chooseAt_55 : decode b_C_chooseAt 55 = .ok (.iload_n 1, 1) := by decide +kernel
theorem dC_chooseAt_56 : decode b_C_chooseAt 56 = .ok (.aload_n 2, 1) := by decide +kernel
theorem dC_chooseAt_57 : decode b_C_chooseAt 57 = .ok (.iload_n 3, 1) := by decide +kernel
theorem dC_chooseAt_58 : decode b_C_chooseAt 58 = .ok (.invokevirtual 94, 3) := by decide +kernel
theorem dC_chooseAt_61 : decode b_C_chooseAt 61 = .ok (.iadd, 1) := by decide +kernel
theorem dC_chooseAt_62 : decode b_C_chooseAt 62 = .ok (.istore 4, 2) := by decide +kernel
theorem dC_chooseAt_64 : decode b_C_chooseAt 64 = .ok (.iload 4, 2) := by decide +kernel
theorem dC_chooseAt_66 : decode b_C_chooseAt 66 = .ok (.aload_n 0, 1) := by decide +kernel
theorem dC_chooseAt_67 : decode b_C_chooseAt 67 = .ok (.getfield 27, 3) := by decide +kernel
theorem dC_chooseAt_70 : decode b_C_chooseAt 70 = .ok (.iload_n 3, 1) := by decide +kernel
theorem dC_chooseAt_71 : decode b_C_chooseAt 71 = .ok (.iaload, 1) := by decide +kernel
theorem dC_chooseAt_72 : decode b_C_chooseAt 72 = .ok (.if_icmp .gt 27, 3) := by decide +kernel
theorem dC_chooseAt_75 : decode b_C_chooseAt 75 = .ok (.aload_n 0, 1) := by decide +kernel
theorem dC_chooseAt_76 : decode b_C_chooseAt 76 = .ok (.iload_n 1, 1) := by decide +kernel
theorem dC_chooseAt_77 : decode b_C_chooseAt 77 = .ok (.iload_n 3, 1) := by decide +kernel
theorem dC_chooseAt_78 : decode b_C_chooseAt 78 = .ok (.aload_n 2, 1) := by decide +kernel
theorem dC_chooseAt_79 : decode b_C_chooseAt 79 = .ok (.iload_n 3, 1) := by decide +kernel
theorem dC_chooseAt_80 : decode b_C_chooseAt 80 = .ok (.invokevirtual 97, 3) := by decide +kernel
theorem dC_chooseAt_83 : decode b_C_chooseAt 83 = .ok (.i2l, 1) := by decide +kernel
theorem dC_chooseAt_84 : decode b_C_chooseAt 84 = .ok (.ldc2_w 99, 3) := by decide +kernel
theorem dC_chooseAt_87 : decode b_C_chooseAt 87 = .ok (.lmul, 1) := by decide +kernel
theorem dC_chooseAt_88 : decode b_C_chooseAt 88 = .ok (.aload_n 0, 1) := by decide +kernel
theorem dC_chooseAt_89 : decode b_C_chooseAt 89 = .ok (.getfield 15, 3) := by decide +kernel
theorem dC_chooseAt_92 : decode b_C_chooseAt 92 = .ok (.iload 4, 2) := by decide +kernel
theorem dC_chooseAt_94 : decode b_C_chooseAt 94 = .ok (.laload, 1) := by decide +kernel
theorem dC_chooseAt_95 : decode b_C_chooseAt 95 = .ok (.ladd, 1) := by decide +kernel
theorem dC_chooseAt_96 : decode b_C_chooseAt 96 = .ok (.invokevirtual 101, 3) := by decide +kernel
theorem dC_chooseAt_99 : decode b_C_chooseAt 99 = .ok (.iinc 3 (-1), 3) := by decide +kernel
theorem dC_chooseAt_102 : decode b_C_chooseAt 102 = .ok (.goto (-72), 3) := by decide +kernel
theorem dC_chooseAt_105 : decode b_C_chooseAt 105 = .ok (.return_, 1) := by decide +kernel
theorem dC_tryLeaf_0 : decode b_C_tryLeaf 0 = .ok (.lload_n 3, 1) := by decide +kernel
theorem dC_tryLeaf_1 : decode b_C_tryLeaf 1 = .ok (.aload_n 0, 1) := by decide +kernel
theorem dC_tryLeaf_2 : decode b_C_tryLeaf 2 = .ok (.getfield 15, 3) := by decide +kernel
theorem dC_tryLeaf_5 : decode b_C_tryLeaf 5 = .ok (.iload_n 1, 1) := by decide +kernel
theorem dC_tryLeaf_6 : decode b_C_tryLeaf 6 = .ok (.laload, 1) := by decide +kernel
theorem dC_tryLeaf_7 : decode b_C_tryLeaf 7 = .ok (.lcmp, 1) := by decide +kernel
theorem dC_tryLeaf_8 : decode b_C_tryLeaf 8 = .ok (.ifCond .lt 17, 3) := by decide +kernel
theorem dC_tryLeaf_11 : decode b_C_tryLeaf 11 = .ok (.aload_n 0, 1) := by decide +kernel
theorem dC_tryLeaf_12 : decode b_C_tryLeaf 12 = .ok (.getfield 15, 3) := by decide +kernel
theorem dC_tryLeaf_15 : decode b_C_tryLeaf 15 = .ok (.iload_n 1, 1) := by decide +kernel
theorem dC_tryLeaf_16 : decode b_C_tryLeaf 16 = .ok (.lload_n 3, 1) := by decide +kernel
theorem dC_tryLeaf_17 : decode b_C_tryLeaf 17 = .ok (.lastore, 1) := by decide +kernel
theorem dC_tryLeaf_18 : decode b_C_tryLeaf 18 = .ok (.aload_n 0, 1) := by decide +kernel
theorem dC_tryLeaf_19 : decode b_C_tryLeaf 19 = .ok (.getfield 19, 3) := by decide +kernel
theorem dC_tryLeaf_22 : decode b_C_tryLeaf 22 = .ok (.iload_n 1, 1) := by decide +kernel
theorem dC_tryLeaf_23 : decode b_C_tryLeaf 23 = .ok (.iload_n 2, 1) := by decide +kernel
theorem dC_tryLeaf_24 : decode b_C_tryLeaf 24 = .ok (.iastore, 1) := by decide +kernel
theorem dC_tryLeaf_25 : decode b_C_tryLeaf 25 = .ok (.return_, 1) := by decide +kernel
theorem dC_listFromTheBegin_0 : decode b_C_listFromTheBegin 0 = .ok (.aload_n 0, 1) := by decide +kernel
theorem dC_listFromTheBegin_1 : decode b_C_listFromTheBegin 1 = .ok (.iconst 0, 1) := by decide +kernel
theorem dC_listFromTheBegin_2 : decode b_C_listFromTheBegin 2 = .ok (.putfield 34, 3) := by decide +kernel
theorem dC_listFromTheBegin_5 : decode b_C_listFromTheBegin 5 = .ok (.aload_n 0, 1) := by decide +kernel
theorem dC_listFromTheBegin_6 : decode b_C_listFromTheBegin 6 = .ok (.iconst 0, 1) := by decide +kernel
theorem dC_listFromTheBegin_7 : decode b_C_listFromTheBegin 7 = .ok (.putfield 38, 3) := by decide +kernel
theorem dC_listFromTheBegin_10 : decode b_C_listFromTheBegin 10 = .ok (.aload_n 0, 1) := by decide +kernel
theorem dC_listFromTheBegin_11 : decode b_C_listFromTheBegin 11 = .ok (.iconst 0, 1) := by decide +kernel
theorem dC_listFromTheBegin_12 : decode b_C_listFromTheBegin 12 = .ok (.putfield 41, 3) := by decide +kernel
theorem dC_listFromTheBegin_15 : decode b_C_listFromTheBegin 15 = .ok (.iconst 0, 1) := by decide +kernel
theorem dC_listFromTheBegin_16 : decode b_C_listFromTheBegin 16 = .ok (.istore_n 2, 1) := by decide +kernel
theorem dC_listFromTheBegin_17 : decode b_C_listFromTheBegin 17 = .ok (.iconst 0, 1) := by decide +kernel
theorem dC_listFromTheBegin_18 : decode b_C_listFromTheBegin 18 = .ok (.istore_n 3, 1) := by decide +kernel
theorem dC_listFromTheBegin_19 : decode b_C_listFromTheBegin 19 = .ok (.iload_n 3, 1) := by decide +kernel
theorem dC_listFromTheBegin_20 : decode b_C_listFromTheBegin 20 = .ok (.aload_n 0, 1) := by decide +kernel
theorem dC_listFromTheBegin_21 : decode b_C_listFromTheBegin 21 = .ok (.getfield 44, 3) := by decide +kernel
theorem dC_listFromTheBegin_24 : decode b_C_listFromTheBegin 24 = .ok (.if_icmp .ge 88, 3) := by decide +kernel
theorem dC_listFromTheBegin_27 : decode b_C_listFromTheBegin 27 = .ok (.iload_n 3, 1) := by decide +kernel
theorem dC_listFromTheBegin_28 : decode b_C_listFromTheBegin 28 = .ok (.iload_n 2, 1) := by decide +kernel
theorem dC_listFromTheBegin_29 : decode b_C_listFromTheBegin 29 = .ok (.if_icmp .ge 6, 3) := by decide +kernel
theorem dC_listFromTheBegin_32 : decode b_C_listFromTheBegin 32 = .ok (.goto 74, 3) := by decide +kernel
theorem dC_listFromTheBegin_35 : decode b_C_listFromTheBegin 35 = .ok (.aload_n 0, 1) := by decide +kernel
theorem dC_listFromTheBegin_36 : decode b_C_listFromTheBegin 36 = .ok (.getfield 19, 3) := by decide +kernel
theorem dC_listFromTheBegin_39 : decode b_C_listFromTheBegin 39 = .ok (.iload_n 3, 1) := by decide +kernel
theorem dC_listFromTheBegin_40 : decode b_C_listFromTheBegin 40 = .ok (.iaload, 1) := by decide +kernel
theorem dC_listFromTheBegin_41 : decode b_C_listFromTheBegin 41 = .ok (.istore 4, 2) := by decide +kernel
theorem dC_listFromTheBegin_43 : decode b_C_listFromTheBegin 43 = .ok (.iload 4, 2) := by decide +kernel
theorem dC_listFromTheBegin_45 : decode b_C_listFromTheBegin 45 = .ok (.iconst (-1), 1) := by decide +kernel
theorem dC_listFromTheBegin_46 : decode b_C_listFromTheBegin 46 = .ok (.if_icmp .ne 16, 3) := by decide +kernel
theorem dC_listFromTheBegin_49 : decode b_C_listFromTheBegin 49 = .ok (.aload_n 0, 1) := by decide +kernel
theorem dC_listFromTheBegin_50 : decode b_C_listFromTheBegin 50 = .ok (.dup, 1) := by decide +kernel
theorem dC_listFromTheBegin_51 : decode b_C_listFromTheBegin 51 = .ok (.getfield 41, 3) := by decide +kernel
theorem dC_listFromTheBegin_54 : decode b_C_listFromTheBegin 54 = .ok (.iconst 1, 1) := by decide +kernel
theorem dC_listFromTheBegin_55 : decode b_C_listFromTheBegin 55 = .ok (.iadd, 1) := by decide +kernel
theorem dC_listFromTheBegin_56 : decode b_C_listFromTheBegin 56 = .ok (.putfield 41, 3) := by decide +kernel
theorem dC_listFromTheBegin_59 : decode b_C_listFromTheBegin 59 = .ok (.goto 47, 3) := by decide +kernel
theorem dC_listFromTheBegin_62 : decode b_C_listFromTheBegin 62 = .ok (.aload_n 0, 1) := by decide +kernel
theorem dC_listFromTheBegin_63 : decode b_C_listFromTheBegin 63 = .ok (.getfield 22, 3) := by decide +kernel
theorem dC_listFromTheBegin_66 : decode b_C_listFromTheBegin 66 = .ok (.aload_n 0, 1) := by decide +kernel
theorem dC_listFromTheBegin_67 : decode b_C_listFromTheBegin 67 = .ok (.getfield 34, 3) := by decide +kernel
theorem dC_listFromTheBegin_70 : decode b_C_listFromTheBegin 70 = .ok (.iload_n 3, 1) := by decide +kernel
theorem dC_listFromTheBegin_71 : decode b_C_listFromTheBegin 71 = .ok (.iastore, 1) := by decide +kernel
theorem dC_listFromTheBegin_72 : decode b_C_listFromTheBegin 72 = .ok (.aload_n 0, 1) := by decide +kernel
theorem dC_listFromTheBegin_73 : decode b_C_listFromTheBegin 73 = .ok (.dup, 1) := by decide +kernel
theorem dC_listFromTheBegin_74 : decode b_C_listFromTheBegin 74 = .ok (.getfield 34, 3) := by decide +kernel
theorem dC_listFromTheBegin_77 : decode b_C_listFromTheBegin 77 = .ok (.iconst 1, 1) := by decide +kernel
theorem dC_listFromTheBegin_78 : decode b_C_listFromTheBegin 78 = .ok (.iadd, 1) := by decide +kernel
theorem dC_listFromTheBegin_79 : decode b_C_listFromTheBegin 79 = .ok (.putfield 34, 3) := by decide +kernel
theorem dC_listFromTheBegin_82 : decode b_C_listFromTheBegin 82 = .ok (.aload_n 0, 1) := by decide +kernel
theorem dC_listFromTheBegin_83 : decode b_C_listFromTheBegin 83 = .ok (.dup, 1) := by decide +kernel
theorem dC_listFromTheBegin_84 : decode b_C_listFromTheBegin 84 = .ok (.getfield 38, 3) := by decide +kernel
theorem dC_listFromTheBegin_87 : decode b_C_listFromTheBegin 87 = .ok (.aload_n 1, 1) := by decide +kernel
theorem dC_listFromTheBegin_88 : decode b_C_listFromTheBegin 88 = .ok (.iload 4, 2) := by decide +kernel
theorem dC_listFromTheBegin_90 : decode b_C_listFromTheBegin 90 = .ok (.invokevirtual 97, 3) := by decide +kernel
theorem dC_listFromTheBegin_93 : decode b_C_listFromTheBegin 93 = .ok (.iadd, 1) := by decide +kernel
theorem dC_listFromTheBegin_94 : decode b_C_listFromTheBegin 94 = .ok (.putfield 38, 3) := by decide +kernel
theorem dC_listFromTheBegin_97 : decode b_C_listFromTheBegin 97 = .ok (.iload_n 3, 1) := by decide +kernel
theorem dC_listFromTheBegin_98 : decode b_C_listFromTheBegin 98 = .ok (.aload_n 1, 1) := by decide +kernel
theorem dC_listFromTheBegin_99 : decode b_C_listFromTheBegin 99 = .ok (.iload 4, 2) := by decide +kernel
theorem dC_listFromTheBegin_101 : decode b_C_listFromTheBegin 101 = .ok (.invokevirtual 94, 3) := by decide +kernel
theorem dC_listFromTheBegin_104 : decode b_C_listFromTheBegin 104 = .ok (.iadd, 1) := by decide +kernel
theorem dC_listFromTheBegin_105 : decode b_C_listFromTheBegin 105 = .ok (.istore_n 2, 1) := by decide +kernel
theorem dC_listFromTheBegin_106 : decode b_C_listFromTheBegin 106 = .ok (.iinc 3 1, 3) := by decide +kernel
theorem dC_listFromTheBegin_109 : decode b_C_listFromTheBegin 109 = .ok (.goto (-90), 3) := by decide +kernel
theorem dC_listFromTheBegin_112 : decode b_C_listFromTheBegin 112 = .ok (.return_, 1) := by decide +kernel
end
section
theorem dK_init_0 : decode b_K_init 0 = .ok (.aload_n 0, 1) := by decide +kernel
theorem dK_init_1 : decode b_K_init 1 = .ok (.invokespecial 3, 3) := by decide +kernel
theorem dK_init_4 : decode b_K_init 4 = .ok (.aload_n 0, 1) := by decide +kernel
theorem dK_init_5 : decode b_K_init 5 = .ok (.bipush 8, 2) := by decide +kernel
theorem dK_init_7 : decode b_K_init 7 = .ok (.newarray .int, 2) := by decide +kernel
theorem dK_init_9 : decode b_K_init 9 = .ok (.putfield 11, 3) := by decide +kernel
theorem dK_init_12 : decode b_K_init 12 = .ok (.aload_n 0, 1) := by decide +kernel
theorem dK_init_13 : decode b_K_init 13 = .ok (.bipush 8, 2) := by decide +kernel
theorem dK_init_15 : decode b_K_init 15 = .ok (.newarray .int, 2) := by decide +kernel
theorem dK_init_17 : decode b_K_init 17 = .ok (.putfield 15, 3) := by decide +kernel
theorem dK_init_20 : decode b_K_init 20 = .ok (.return_, 1) := by decide +kernel
theorem dK_isBelowLast_0 : decode b_K_isBelowLast 0 = .ok (.aload_n 0, 1) := by decide +kernel
theorem dK_isBelowLast_1 : decode b_K_isBelowLast 1 = .ok (.getfield 18, 3) := by decide +kernel
theorem dK_isBelowLast_4 : decode b_K_isBelowLast 4 = .ok (.ifCond .eq 18, 3) := by decide +kernel
theorem dK_isBelowLast_7 : decode b_K_isBelowLast 7 = .ok (.iload_n 1, 1) := by decide +kernel
theorem dK_isBelowLast_8 : decode b_K_isBelowLast 8 = .ok (.aload_n 0, 1) := by decide +kernel
theorem dK_isBelowLast_9 : decode b_K_isBelowLast 9 = .ok (.getfield 11, 3) := by decide +kernel
theorem dK_isBelowLast_12 : decode b_K_isBelowLast 12 = .ok (.aload_n 0, 1) := by decide +kernel
theorem dK_isBelowLast_13 : decode b_K_isBelowLast 13 = .ok (.getfield 18, 3) := by decide +kernel
theorem dK_isBelowLast_16 : decode b_K_isBelowLast 16 = .ok (.iconst 1, 1) := by decide +kernel
theorem dK_isBelowLast_17 : decode b_K_isBelowLast 17 = .ok (.isub, 1) := by decide +kernel
theorem dK_isBelowLast_18 : decode b_K_isBelowLast 18 = .ok (.iaload, 1) := by decide +kernel
theorem dK_isBelowLast_19 : decode b_K_isBelowLast 19 = .ok (.if_icmp .ge 7, 3) := by decide +kernel
theorem dK_isBelowLast_22 : decode b_K_isBelowLast 22 = .ok (.iconst 1, 1) := by decide +kernel
theorem dK_isBelowLast_23 : decode b_K_isBelowLast 23 = .ok (.goto 4, 3) := by decide +kernel
theorem dK_isBelowLast_26 : decode b_K_isBelowLast 26 = .ok (.iconst 0, 1) := by decide +kernel
theorem dK_isBelowLast_27 : decode b_K_isBelowLast 27 = .ok (.ireturn, 1) := by decide +kernel
theorem dK_add_0 : decode b_K_add 0 = .ok (.aload_n 0, 1) := by decide +kernel
theorem dK_add_1 : decode b_K_add 1 = .ok (.getfield 18, 3) := by decide +kernel
theorem dK_add_4 : decode b_K_add 4 = .ok (.bipush 8, 2) := by decide +kernel
theorem dK_add_6 : decode b_K_add 6 = .ok (.if_icmp .lt 5, 3) := by decide +kernel
theorem dK_add_9 : decode b_K_add 9 = .ok (.iconst 0, 1) := by decide +kernel
theorem dK_add_10 : decode b_K_add 10 = .ok (.ireturn, 1) := by decide +kernel
theorem dK_add_11 : decode b_K_add 11 = .ok (.aload_n 0, 1) := by decide +kernel
theorem dK_add_12 : decode b_K_add 12 = .ok (.getfield 11, 3) := by decide +kernel
theorem dK_add_15 : decode b_K_add 15 = .ok (.aload_n 0, 1) := by decide +kernel
theorem dK_add_16 : decode b_K_add 16 = .ok (.getfield 18, 3) := by decide +kernel
theorem dK_add_19 : decode b_K_add 19 = .ok (.iload_n 1, 1) := by decide +kernel
theorem dK_add_20 : decode b_K_add 20 = .ok (.iastore, 1) := by decide +kernel
theorem dK_add_21 : decode b_K_add 21 = .ok (.aload_n 0, 1) := by decide +kernel
theorem dK_add_22 : decode b_K_add 22 = .ok (.getfield 15, 3) := by decide +kernel
theorem dK_add_25 : decode b_K_add 25 = .ok (.aload_n 0, 1) := by decide +kernel
theorem dK_add_26 : decode b_K_add 26 = .ok (.getfield 18, 3) := by decide +kernel
theorem dK_add_29 : decode b_K_add 29 = .ok (.iload_n 2, 1) := by decide +kernel
theorem dK_add_30 : decode b_K_add 30 = .ok (.iastore, 1) := by decide +kernel
theorem dK_add_31 : decode b_K_add 31 = .ok (.aload_n 0, 1) := by decide +kernel
theorem dK_add_32 : decode b_K_add 32 = .ok (.dup, 1) := by decide +kernel
theorem dK_add_33 : decode b_K_add 33 = .ok (.getfield 18, 3) := by decide +kernel
theorem dK_add_36 : decode b_K_add 36 = .ok (.iconst 1, 1) := by decide +kernel
theorem dK_add_37 : decode b_K_add 37 = .ok (.iadd, 1) := by decide +kernel
theorem dK_add_38 : decode b_K_add 38 = .ok (.putfield 18, 3) := by decide +kernel
theorem dK_add_41 : decode b_K_add 41 = .ok (.iconst 1, 1) := by decide +kernel
theorem dK_add_42 : decode b_K_add 42 = .ok (.ireturn, 1) := by decide +kernel
theorem dK_answerAt_0 : decode b_K_answerAt 0 = .ok (.aload_n 0, 1) := by decide +kernel
theorem dK_answerAt_1 : decode b_K_answerAt 1 = .ok (.getfield 18, 3) := by decide +kernel
theorem dK_answerAt_4 : decode b_K_answerAt 4 = .ok (.iconst 1, 1) := by decide +kernel
theorem dK_answerAt_5 : decode b_K_answerAt 5 = .ok (.isub, 1) := by decide +kernel
theorem dK_answerAt_6 : decode b_K_answerAt 6 = .ok (.istore_n 2, 1) := by decide +kernel
theorem dK_answerAt_7 : decode b_K_answerAt 7 = .ok (.iload_n 2, 1) := by decide +kernel
theorem dK_answerAt_8 : decode b_K_answerAt 8 = .ok (.ifCond .lt 30, 3) := by decide +kernel
theorem dK_answerAt_11 : decode b_K_answerAt 11 = .ok (.aload_n 0, 1) := by decide +kernel
theorem dK_answerAt_12 : decode b_K_answerAt 12 = .ok (.getfield 11, 3) := by decide +kernel
theorem dK_answerAt_15 : decode b_K_answerAt 15 = .ok (.iload_n 2, 1) := by decide +kernel
theorem dK_answerAt_16 : decode b_K_answerAt 16 = .ok (.iaload, 1) := by decide +kernel
theorem dK_answerAt_17 : decode b_K_answerAt 17 = .ok (.iload_n 1, 1) := by decide +kernel
theorem dK_answerAt_18 : decode b_K_answerAt 18 = .ok (.if_icmp .lt 14, 3) := by decide +kernel
theorem dK_answerAt_21 : decode b_K_answerAt 21 = .ok (.aload_n 0, 1) := by decide +kernel
theorem dK_answerAt_22 : decode b_K_answerAt 22 = .ok (.getfield 15, 3) := by decide +kernel
theorem dK_answerAt_25 : decode b_K_answerAt 25 = .ok (.iload_n 2, 1) := by decide +kernel
theorem dK_answerAt_26 : decode b_K_answerAt 26 = .ok (.iaload, 1) := by decide +kernel
theorem dK_answerAt_27 : decode b_K_answerAt 27 = .ok (.sipush 1000, 3) := by decide +kernel
theorem dK_answerAt_30 : decode b_K_answerAt 30 = .ok (.iadd, 1) := by decide +kernel
theorem dK_answerAt_31 : decode b_K_answerAt 31 = .ok (.ireturn, 1) := by decide +kernel
theorem dK_answerAt_32 : decode b_K_answerAt 32 = .ok (.iinc 2 (-1), 3) := by decide +kernel
theorem dK_answerAt_35 : decode b_K_answerAt 35 = .ok (.goto (-28), 3) := by decide +kernel
theorem dK_answerAt_38 : decode b_K_answerAt 38 = .ok (.iconst (-1), 1) := by decide +kernel
theorem dK_answerAt_39 : decode b_K_answerAt 39 = .ok (.ireturn, 1) := by decide +kernel
end
section
theorem dM_init_0 : decode b_M_init 0 = .ok (.aload_n 0, 1) := by decide +kernel
theorem dM_init_1 : decode b_M_init 1 = .ok (.invokespecial 1, 3) := by decide +kernel
theorem dM_init_4 : decode b_M_init 4 = .ok (.aload_n 0, 1) := by decide +kernel
theorem dM_init_5 : decode b_M_init 5 = .ok (.sipush 400, 3) := by decide +kernel
theorem dM_init_8 : decode b_M_init 8 = .ok (.newarray .boolean, 2) := by decide +kernel
theorem dM_init_10 : decode b_M_init 10 = .ok (.putfield 7, 3) := by decide +kernel
theorem dM_init_13 : decode b_M_init 13 = .ok (.aload_n 0, 1) := by decide +kernel
theorem dM_init_14 : decode b_M_init 14 = .ok (.sipush 3844, 3) := by decide +kernel
theorem dM_init_17 : decode b_M_init 17 = .ok (.newarray .int, 2) := by decide +kernel
theorem dM_init_19 : decode b_M_init 19 = .ok (.putfield 13, 3) := by decide +kernel
theorem dM_init_22 : decode b_M_init 22 = .ok (.aload_n 0, 1) := by decide +kernel
theorem dM_init_23 : decode b_M_init 23 = .ok (.iconst 4, 1) := by decide +kernel
theorem dM_init_24 : decode b_M_init 24 = .ok (.newarray .int, 2) := by decide +kernel
theorem dM_init_26 : decode b_M_init 26 = .ok (.putfield 17, 3) := by decide +kernel
theorem dM_init_29 : decode b_M_init 29 = .ok (.aload_n 0, 1) := by decide +kernel
theorem dM_init_30 : decode b_M_init 30 = .ok (.bipush 16, 2) := by decide +kernel
theorem dM_init_32 : decode b_M_init 32 = .ok (.newarray .int, 2) := by decide +kernel
theorem dM_init_34 : decode b_M_init 34 = .ok (.putfield 20, 3) := by decide +kernel
theorem dM_init_37 : decode b_M_init 37 = .ok (.aload_n 0, 1) := by decide +kernel
theorem dM_init_38 : decode b_M_init 38 = .ok (.bipush 16, 2) := by decide +kernel
theorem dM_init_40 : decode b_M_init 40 = .ok (.newarray .int, 2) := by decide +kernel
theorem dM_init_42 : decode b_M_init 42 = .ok (.putfield 23, 3) := by decide +kernel
theorem dM_init_45 : decode b_M_init 45 = .ok (.aload_n 0, 1) := by decide +kernel
theorem dM_init_46 : decode b_M_init 46 = .ok (.bipush 16, 2) := by decide +kernel
theorem dM_init_48 : decode b_M_init 48 = .ok (.newarray .int, 2) := by decide +kernel
theorem dM_init_50 : decode b_M_init 50 = .ok (.putfield 26, 3) := by decide +kernel
theorem dM_init_53 : decode b_M_init 53 = .ok (.aload_n 0, 1) := by decide +kernel
theorem dM_init_54 : decode b_M_init 54 = .ok (.bipush 6, 2) := by decide +kernel
theorem dM_init_56 : decode b_M_init 56 = .ok (.newarray .int, 2) := by decide +kernel
theorem dM_init_58 : decode b_M_init 58 = .ok (.putfield 29, 3) := by decide +kernel
theorem dM_init_61 : decode b_M_init 61 = .ok (.aload_n 0, 1) := by decide +kernel
theorem dM_init_62 : decode b_M_init 62 = .ok (.bipush 6, 2) := by decide +kernel
theorem dM_init_64 : decode b_M_init 64 = .ok (.newarray .int, 2) := by decide +kernel
theorem dM_init_66 : decode b_M_init 66 = .ok (.putfield 32, 3) := by decide +kernel
theorem dM_init_69 : decode b_M_init 69 = .ok (.aload_n 0, 1) := by decide +kernel
theorem dM_init_70 : decode b_M_init 70 = .ok (.bipush 6, 2) := by decide +kernel
theorem dM_init_72 : decode b_M_init 72 = .ok (.newarray .int, 2) := by decide +kernel
theorem dM_init_74 : decode b_M_init 74 = .ok (.putfield 35, 3) := by decide +kernel
theorem dM_init_77 : decode b_M_init 77 = .ok (.aload_n 0, 1) := by decide +kernel
theorem dM_init_78 : decode b_M_init 78 = .ok (.sipush 2001, 3) := by decide +kernel
theorem dM_init_81 : decode b_M_init 81 = .ok (.newarray .int, 2) := by decide +kernel
theorem dM_init_83 : decode b_M_init 83 = .ok (.putfield 38, 3) := by decide +kernel
theorem dM_init_86 : decode b_M_init 86 = .ok (.aload_n 0, 1) := by decide +kernel
theorem dM_init_87 : decode b_M_init 87 = .ok (.sipush 2001, 3) := by decide +kernel
theorem dM_init_90 : decode b_M_init 90 = .ok (.newarray .long, 2) := by decide +kernel
theorem dM_init_92 : decode b_M_init 92 = .ok (.putfield 41, 3) := by decide +kernel
theorem dM_init_95 : decode b_M_init 95 = .ok (.aload_n 0, 1) := by decide +kernel
theorem dM_init_96 : decode b_M_init 96 = .ok (.sipush 2001, 3) := by decide +kernel
theorem dM_init_99 : decode b_M_init 99 = .ok (.newarray .int, 2) := by decide +kernel
theorem dM_init_101 : decode b_M_init 101 = .ok (.putfield 45, 3) := by decide +kernel
theorem dM_init_104 : decode b_M_init 104 = .ok (.aload_n 0, 1) := by decide +kernel
theorem dM_init_105 : decode b_M_init 105 = .ok (.sipush 2000, 3) := by decide +kernel
theorem dM_init_108 : decode b_M_init 108 = .ok (.newarray .int, 2) := by decide +kernel
theorem dM_init_110 : decode b_M_init 110 = .ok (.putfield 48, 3) := by decide +kernel
theorem dM_init_113 : decode b_M_init 113 = .ok (.aload_n 0, 1) := by decide +kernel
theorem dM_init_114 : decode b_M_init 114 = .ok (.sipush 2000, 3) := by decide +kernel
theorem dM_init_117 : decode b_M_init 117 = .ok (.newarray .int, 2) := by decide +kernel
theorem dM_init_119 : decode b_M_init 119 = .ok (.putfield 51, 3) := by decide +kernel
theorem dM_init_122 : decode b_M_init 122 = .ok (.aload_n 0, 1) := by decide +kernel
theorem dM_init_123 : decode b_M_init 123 = .ok (.bipush 8, 2) := by decide +kernel
theorem dM_init_125 : decode b_M_init 125 = .ok (.newarray .int, 2) := by decide +kernel
theorem dM_init_127 : decode b_M_init 127 = .ok (.putfield 54, 3) := by decide +kernel
theorem dM_init_130 : decode b_M_init 130 = .ok (.aload_n 0, 1) := by decide +kernel
theorem dM_init_131 : decode b_M_init 131 = .ok (.bipush 8, 2) := by decide +kernel
theorem dM_init_133 : decode b_M_init 133 = .ok (.newarray .int, 2) := by decide +kernel
theorem dM_init_135 : decode b_M_init 135 = .ok (.putfield 57, 3) := by decide +kernel
theorem dM_init_138 : decode b_M_init 138 = .ok (.aload_n 0, 1) := by decide +kernel
theorem dM_init_139 : decode b_M_init 139 = .ok (.iload_n 1, 1) := by decide +kernel
theorem dM_init_140 : decode b_M_init 140 = .ok (.iconst 1, 1) := by decide +kernel
theorem dM_init_141 : decode b_M_init 141 = .ok (.if_icmp .ge 7, 3) := by decide +kernel
theorem dM_init_144 : decode b_M_init 144 = .ok (.iconst 1, 1) := by decide +kernel
theorem dM_init_145 : decode b_M_init 145 = .ok (.goto 13, 3) := by decide +kernel
theorem dM_init_148 : decode b_M_init 148 = .ok (.iload_n 1, 1) := by decide +kernel
theorem dM_init_149 : decode b_M_init 149 = .ok (.iconst 4, 1) := by decide +kernel
theorem dM_init_150 : decode b_M_init 150 = .ok (.if_icmp .le 7, 3) := by decide +kernel
theorem dM_init_153 : decode b_M_init 153 = .ok (.iconst 4, 1) := by decide +kernel
theorem dM_init_154 : decode b_M_init 154 = .ok (.goto 4, 3) := by decide +kernel
theorem dM_init_157 : decode b_M_init 157 = .ok (.iload_n 1, 1) := by decide +kernel
theorem dM_init_158 : decode b_M_init 158 = .ok (.putfield 60, 3) := by decide +kernel
theorem dM_init_161 : decode b_M_init 161 = .ok (.aload_n 0, 1) := by decide +kernel
theorem dM_init_162 : decode b_M_init 162 = .ok (.iload_n 2, 1) := by decide +kernel
theorem dM_init_163 : decode b_M_init 163 = .ok (.iconst 1, 1) := by decide +kernel
theorem dM_init_164 : decode b_M_init 164 = .ok (.if_icmp .ge 7, 3) := by decide +kernel
theorem dM_init_167 : decode b_M_init 167 = .ok (.iconst 1, 1) := by decide +kernel
theorem dM_init_168 : decode b_M_init 168 = .ok (.goto 15, 3) := by decide +kernel
theorem dM_init_171 : decode b_M_init 171 = .ok (.iload_n 2, 1) := by decide +kernel
theorem dM_init_172 : decode b_M_init 172 = .ok (.bipush 10, 2) := by decide +kernel
theorem dM_init_174 : decode b_M_init 174 = .ok (.if_icmp .le 8, 3) := by decide +kernel
theorem dM_init_177 : decode b_M_init 177 = .ok (.bipush 10, 2) := by decide +kernel
theorem dM_init_179 : decode b_M_init 179 = .ok (.goto 4, 3) := by decide +kernel
theorem dM_init_182 : decode b_M_init 182 = .ok (.iload_n 2, 1) := by decide +kernel
theorem dM_init_183 : decode b_M_init 183 = .ok (.putfield 64, 3) := by decide +kernel
theorem dM_init_186 : decode b_M_init 186 = .ok (.aload_n 0, 1) := by decide +kernel
theorem dM_init_187 : decode b_M_init 187 = .ok (.aload_n 0, 1) := by decide +kernel
theorem dM_init_188 : decode b_M_init 188 = .ok (.getfield 60, 3) := by decide +kernel
theorem dM_init_191 : decode b_M_init 191 = .ok (.iconst 1, 1) := by decide +kernel
theorem dM_init_192 : decode b_M_init 192 = .ok (.if_icmp .ne 7, 3) := by decide +kernel
theorem dM_init_195 : decode b_M_init 195 = .ok (.iconst 1, 1) := by decide +kernel
theorem dM_init_196 : decode b_M_init 196 = .ok (.goto 9, 3) := by decide +kernel
theorem dM_init_199 : decode b_M_init 199 = .ok (.aload_n 0, 1) := by decide +kernel
theorem dM_init_200 : decode b_M_init 200 = .ok (.getfield 60, 3) := by decide +kernel
theorem dM_init_203 : decode b_M_init 203 = .ok (.iconst 1, 1) := by decide +kernel
theorem dM_init_204 : decode b_M_init 204 = .ok (.isub, 1) := by decide +kernel
theorem dM_init_205 : decode b_M_init 205 = .ok (.putfield 67, 3) := by decide +kernel
theorem dM_init_208 : decode b_M_init 208 = .ok (.return_, 1) := by decide +kernel
theorem dM_thrown_0 : decode b_M_thrown 0 = .ok (.aload_n 0, 1) := by decide +kernel
theorem dM_thrown_1 : decode b_M_thrown 1 = .ok (.getfield 70, 3) := by decide +kernel
theorem dM_thrown_4 : decode b_M_thrown 4 = .ok (.ireturn, 1) := by decide +kernel
theorem dM_isIn_0 : decode b_M_isIn 0 = .ok (.iload_n 0, 1) := by decide +kernel
theorem dM_isIn_1 : decode b_M_isIn 1 = .ok (.iload_n 1, 1) := by decide +kernel
theorem dM_isIn_2 : decode b_M_isIn 2 = .ok (.if_icmp .lt 12, 3) := by decide +kernel
theorem dM_isIn_5 : decode b_M_isIn 5 = .ok (.iload_n 0, 1) := by decide +kernel
theorem dM_isIn_6 : decode b_M_isIn 6 = .ok (.iload_n 2, 1) := by decide +kernel
theorem dM_isIn_7 : decode b_M_isIn 7 = .ok (.if_icmp .gt 7, 3) := by decide +kernel
theorem dM_isIn_10 : decode b_M_isIn 10 = .ok (.iconst 1, 1) := by decide +kernel
theorem dM_isIn_11 : decode b_M_isIn 11 = .ok (.goto 4, 3) := by decide +kernel
theorem dM_isIn_14 : decode b_M_isIn 14 = .ok (.iconst 0, 1) := by decide +kernel
theorem dM_isIn_15 : decode b_M_isIn 15 = .ok (.ireturn, 1) := by decide +kernel
theorem dM_cell_0 : decode b_M_cell 0 = .ok (.aload_n 0, 1) := by decide +kernel
theorem dM_cell_1 : decode b_M_cell 1 = .ok (.iload_n 1, 1) := by decide +kernel
theorem dM_cell_2 : decode b_M_cell 2 = .ok (.iconst 0, 1) := by decide +kernel
theorem dM_cell_3 : decode b_M_cell 3 = .ok (.aload_n 0, 1) := by decide +kernel
theorem dM_cell_4 : decode b_M_cell 4 = .ok (.getfield 60, 3) := by decide +kernel
theorem dM_cell_7 : decode b_M_cell 7 = .ok (.iconst 1, 1) := by decide +kernel
theorem dM_cell_8 : decode b_M_cell 8 = .ok (.isub, 1) := by decide +kernel
theorem dM_cell_9 : decode b_M_cell 9 = .ok (.invokestatic 73, 3) := by decide +kernel
theorem dM_cell_12 : decode b_M_cell 12 = .ok (.ifCond .eq 35, 3) := by decide +kernel
theorem dM_cell_15 : decode b_M_cell 15 = .ok (.iload_n 2, 1) := by decide +kernel
theorem dM_cell_16 : decode b_M_cell 16 = .ok (.iconst 0, 1) := by decide +kernel
theorem dM_cell_17 : decode b_M_cell 17 = .ok (.aload_n 0, 1) := by decide +kernel
theorem dM_cell_18 : decode b_M_cell 18 = .ok (.getfield 64, 3) := by decide +kernel
theorem dM_cell_21 : decode b_M_cell 21 = .ok (.iconst 1, 1) := by decide +kernel
theorem dM_cell_22 : decode b_M_cell 22 = .ok (.isub, 1) := by decide +kernel
theorem dM_cell_23 : decode b_M_cell 23 = .ok (.invokestatic 73, 3) := by decide +kernel
theorem dM_cell_26 : decode b_M_cell 26 = .ok (.ifCond .eq 21, 3) := by decide +kernel
theorem dM_cell_29 : decode b_M_cell 29 = .ok (.iload_n 3, 1) := by decide +kernel
theorem dM_cell_30 : decode b_M_cell 30 = .ok (.iconst 0, 1) := by decide +kernel
theorem dM_cell_31 : decode b_M_cell 31 = .ok (.aload_n 0, 1) := by decide +kernel
theorem dM_cell_32 : decode b_M_cell 32 = .ok (.getfield 64, 3) := by decide +kernel
theorem dM_cell_35 : decode b_M_cell 35 = .ok (.iconst 1, 1) := by decide +kernel
theorem dM_cell_36 : decode b_M_cell 36 = .ok (.isub, 1) := by decide +kernel
theorem dM_cell_37 : decode b_M_cell 37 = .ok (.invokestatic 73, 3) := by decide +kernel
theorem dM_cell_40 : decode b_M_cell 40 = .ok (.ifCond .eq 7, 3) := by decide +kernel
theorem dM_cell_43 : decode b_M_cell 43 = .ok (.iconst 0, 1) := by decide +kernel
theorem dM_cell_44 : decode b_M_cell 44 = .ok (.goto 4, 3) := by decide +kernel
theorem dM_cell_47 : decode b_M_cell 47 = .ok (.iconst 1, 1) := by decide +kernel
theorem dM_cell_48 : decode b_M_cell 48 = .ok (.putfield 70, 3) := by decide +kernel
theorem dM_cell_51 : decode b_M_cell 51 = .ok (.aload_n 0, 1) := by decide +kernel
theorem dM_cell_52 : decode b_M_cell 52 = .ok (.getfield 70, 3) := by decide +kernel
theorem dM_cell_55 : decode b_M_cell 55 = .ok (.ifCond .le 5, 3) := by decide +kernel
theorem dM_cell_58 : decode b_M_cell 58 = .ok (.iconst 0, 1) := by decide +kernel
theorem dM_cell_59 : decode b_M_cell 59 = .ok (.ireturn, 1) := by decide +kernel
theorem dM_cell_60 : decode b_M_cell 60 = .ok (.bipush 100, 2) := by decide +kernel
theorem dM_cell_62 : decode b_M_cell 62 = .ok (.iload_n 1, 1) := by decide +kernel
theorem dM_cell_63 : decode b_M_cell 63 = .ok (.imul, 1) := by decide +kernel
theorem dM_cell_64 : decode b_M_cell 64 = .ok (.bipush 10, 2) := by decide +kernel
theorem dM_cell_66 : decode b_M_cell 66 = .ok (.iload_n 3, 1) := by decide +kernel
theorem dM_cell_67 : decode b_M_cell 67 = .ok (.imul, 1) := by decide +kernel
theorem dM_cell_68 : decode b_M_cell 68 = .ok (.iadd, 1) := by decide +kernel
theorem dM_cell_69 : decode b_M_cell 69 = .ok (.iload_n 2, 1) := by decide +kernel
theorem dM_cell_70 : decode b_M_cell 70 = .ok (.iadd, 1) := by decide +kernel
theorem dM_cell_71 : decode b_M_cell 71 = .ok (.istore 5, 2) := by decide +kernel
theorem dM_cell_73 : decode b_M_cell 73 = .ok (.aload_n 0, 1) := by decide +kernel
theorem dM_cell_74 : decode b_M_cell 74 = .ok (.getfield 7, 3) := by decide +kernel
theorem dM_cell_77 : decode b_M_cell 77 = .ok (.iload 5, 2) := by decide +kernel
theorem dM_cell_79 : decode b_M_cell 79 = .ok (.baload, 1) := by decide +kernel
theorem dM_cell_80 : decode b_M_cell 80 = .ok (.iload 4, 2) := by decide +kernel
theorem dM_cell_82 : decode b_M_cell 82 = .ok (.if_icmp .eq 7, 3) := by decide +kernel
theorem dM_cell_85 : decode b_M_cell 85 = .ok (.iconst 1, 1) := by decide +kernel
theorem dM_cell_86 : decode b_M_cell 86 = .ok (.goto 4, 3) := by decide +kernel
theorem dM_cell_89 : decode b_M_cell 89 = .ok (.iconst 0, 1) := by decide +kernel
theorem dM_cell_90 : decode b_M_cell 90 = .ok (.istore 6, 2) := by decide +kernel
theorem dM_cell_92 : decode b_M_cell 92 = .ok (.aload_n 0, 1) := by decide +kernel
theorem dM_cell_93 : decode b_M_cell 93 = .ok (.getfield 7, 3) := by decide +kernel
theorem dM_cell_96 : decode b_M_cell 96 = .ok (.iload 5, 2) := by decide +kernel
theorem dM_cell_98 : decode b_M_cell 98 = .ok (.iload 4, 2) := by decide +kernel
theorem dM_cell_100 : decode b_M_cell 100 = .ok (.bastore, 1) := by decide +kernel
theorem dM_cell_101 : decode b_M_cell 101 = .ok (.aload_n 0, 1) := by decide +kernel
theorem dM_cell_102 : decode b_M_cell 102 = .ok (.aload_n 0, 1) := by decide +kernel
theorem dM_cell_103 : decode b_M_cell 103 = .ok (.getfield 77, 3) := by decide +kernel
theorem dM_cell_106 : decode b_M_cell 106 = .ok (.ifCond .eq 12, 3) := by decide +kernel
theorem dM_cell_109 : decode b_M_cell 109 = .ok (.iload 6, 2) := by decide +kernel
theorem dM_cell_111 : decode b_M_cell 111 = .ok (.ifCond .ne 7, 3) := by decide +kernel
theorem dM_cell_114 : decode b_M_cell 114 = .ok (.iconst 1, 1) := by decide +kernel
theorem dM_cell_115 : decode b_M_cell 115 = .ok (.goto 4, 3) := by decide +kernel
theorem dM_cell_118 : decode b_M_cell 118 = .ok (.iconst 0, 1) := by decide +kernel
theorem dM_cell_119 : decode b_M_cell 119 = .ok (.putfield 77, 3) := by decide +kernel
theorem dM_cell_122 : decode b_M_cell 122 = .ok (.aload_n 0, 1) := by decide +kernel
theorem dM_cell_123 : decode b_M_cell 123 = .ok (.aload_n 0, 1) := by decide +kernel
theorem dM_cell_124 : decode b_M_cell 124 = .ok (.getfield 81, 3) := by decide +kernel
theorem dM_cell_127 : decode b_M_cell 127 = .ok (.ifCond .eq 12, 3) := by decide +kernel
theorem dM_cell_130 : decode b_M_cell 130 = .ok (.iload 6, 2) := by decide +kernel
theorem dM_cell_132 : decode b_M_cell 132 = .ok (.ifCond .ne 7, 3) := by decide +kernel
theorem dM_cell_135 : decode b_M_cell 135 = .ok (.iconst 1, 1) := by decide +kernel
theorem dM_cell_136 : decode b_M_cell 136 = .ok (.goto 4, 3) := by decide +kernel
theorem dM_cell_139 : decode b_M_cell 139 = .ok (.iconst 0, 1) := by decide +kernel
theorem dM_cell_140 : decode b_M_cell 140 = .ok (.putfield 81, 3) := by decide +kernel
theorem dM_cell_143 : decode b_M_cell 143 = .ok (.aload_n 0, 1) := by decide +kernel
theorem dM_cell_144 : decode b_M_cell 144 = .ok (.aload_n 0, 1) := by decide +kernel
theorem dM_cell_145 : decode b_M_cell 145 = .ok (.getfield 84, 3) := by decide +kernel
theorem dM_cell_148 : decode b_M_cell 148 = .ok (.ifCond .eq 12, 3) := by decide +kernel
theorem dM_cell_151 : decode b_M_cell 151 = .ok (.iload 6, 2) := by decide +kernel
theorem dM_cell_153 : decode b_M_cell 153 = .ok (.ifCond .ne 7, 3) := by decide +kernel
theorem dM_cell_156 : decode b_M_cell 156 = .ok (.iconst 1, 1) := by decide +kernel
theorem dM_cell_157 : decode b_M_cell 157 = .ok (.goto 4, 3) := by decide +kernel
theorem dM_cell_160 : decode b_M_cell 160 = .ok (.iconst 0, 1) := by decide +kernel
theorem dM_cell_161 : decode b_M_cell 161 = .ok (.putfield 84, 3) := by decide +kernel
theorem dM_cell_164 : decode b_M_cell 164 = .ok (.iload 6, 2) := by decide +kernel
theorem dM_cell_166 : decode b_M_cell 166 = .ok (.ireturn, 1) := by decide +kernel
theorem dM_less_0 : decode b_M_less 0 = .ok (.iload_n 0, 1) := by decide +kernel
theorem dM_less_1 : decode b_M_less 1 = .ok (.iload_n 1, 1) := by decide +kernel
theorem dM_less_2 : decode b_M_less 2 = .ok (.if_icmp .ge 7, 3) := by decide +kernel
theorem dM_less_5 : decode b_M_less 5 = .ok (.iload_n 0, 1) := by decide +kernel
theorem dM_less_6 : decode b_M_less 6 = .ok (.goto 4, 3) := by decide +kernel
theorem dM_less_9 : decode b_M_less 9 = .ok (.iload_n 1, 1) := by decide +kernel
theorem dM_less_10 : decode b_M_less 10 = .ok (.ireturn, 1) := by decide +kernel
theorem dM_off_0 : decode b_M_off 0 = .ok (.iload_n 0, 1) := by decide +kernel
theorem dM_off_1 : decode b_M_off 1 = .ok (.iload_n 1, 1) := by decide +kernel
theorem dM_off_2 : decode b_M_off 2 = .ok (.if_icmp .ge 9, 3) := by decide +kernel
theorem dM_off_5 : decode b_M_off 5 = .ok (.iload_n 1, 1) := by decide +kernel
theorem dM_off_6 : decode b_M_off 6 = .ok (.iload_n 0, 1) := by decide +kernel
theorem dM_off_7 : decode b_M_off 7 = .ok (.isub, 1) := by decide +kernel
theorem dM_off_8 : decode b_M_off 8 = .ok (.goto 15, 3) := by decide +kernel
theorem dM_off_11 : decode b_M_off 11 = .ok (.iload_n 0, 1) := by decide +kernel
theorem dM_off_12 : decode b_M_off 12 = .ok (.iload_n 2, 1) := by decide +kernel
theorem dM_off_13 : decode b_M_off 13 = .ok (.if_icmp .le 9, 3) := by decide +kernel
theorem dM_off_16 : decode b_M_off 16 = .ok (.iload_n 0, 1) := by decide +kernel
theorem dM_off_17 : decode b_M_off 17 = .ok (.iload_n 2, 1) := by decide +kernel
theorem dM_off_18 : decode b_M_off 18 = .ok (.isub, 1) := by decide +kernel
theorem dM_off_19 : decode b_M_off 19 = .ok (.goto 4, 3) := by decide +kernel
theorem dM_off_22 : decode b_M_off 22 = .ok (.iconst 0, 1) := by decide +kernel
theorem dM_off_23 : decode b_M_off 23 = .ok (.ireturn, 1) := by decide +kernel
theorem dM_square_0 : decode b_M_square 0 = .ok (.aload_n 0, 1) := by decide +kernel
theorem dM_square_1 : decode b_M_square 1 = .ok (.getfield 64, 3) := by decide +kernel
theorem dM_square_4 : decode b_M_square 4 = .ok (.aload_n 0, 1) := by decide +kernel
theorem dM_square_5 : decode b_M_square 5 = .ok (.getfield 67, 3) := by decide +kernel
theorem dM_square_8 : decode b_M_square 8 = .ok (.imul, 1) := by decide +kernel
theorem dM_square_9 : decode b_M_square 9 = .ok (.istore 4, 2) := by decide +kernel
theorem dM_square_11 : decode b_M_square 11 = .ok (.iload_n 2, 1) := by decide +kernel
theorem dM_square_12 : decode b_M_square 12 = .ok (.iload 4, 2) := by decide +kernel
theorem dM_square_14 : decode b_M_square 14 = .ok (.iload_n 2, 1) := by decide +kernel
theorem dM_square_15 : decode b_M_square 15 = .ok (.isub, 1) := by decide +kernel
theorem dM_square_16 : decode b_M_square 16 = .ok (.invokestatic 87, 3) := by decide +kernel
theorem dM_square_19 : decode b_M_square 19 = .ok (.iload_n 3, 1) := by decide +kernel
theorem dM_square_20 : decode b_M_square 20 = .ok (.iload 4, 2) := by decide +kernel
theorem dM_square_22 : decode b_M_square 22 = .ok (.iload_n 3, 1) := by decide +kernel
theorem dM_square_23 : decode b_M_square 23 = .ok (.isub, 1) := by decide +kernel
theorem dM_square_24 : decode b_M_square 24 = .ok (.invokestatic 87, 3) := by decide +kernel
theorem dM_square_27 : decode b_M_square 27 = .ok (.invokestatic 87, 3) := by decide +kernel
theorem dM_square_30 : decode b_M_square 30 = .ok (.istore 5, 2) := by decide +kernel
theorem dM_square_32 : decode b_M_square 32 = .ok (.iload 5, 2) := by decide +kernel
theorem dM_square_34 : decode b_M_square 34 = .ok (.iload 5, 2) := by decide +kernel
theorem dM_square_36 : decode b_M_square 36 = .ok (.imul, 1) := by decide +kernel
theorem dM_square_37 : decode b_M_square 37 = .ok (.istore 6, 2) := by decide +kernel
theorem dM_square_39 : decode b_M_square 39 = .ok (.iconst 0, 1) := by decide +kernel
theorem dM_square_40 : decode b_M_square 40 = .ok (.istore 7, 2) := by decide +kernel
theorem dM_square_42 : decode b_M_square 42 = .ok (.iload 7, 2) := by decide +kernel
theorem dM_square_44 : decode b_M_square 44 = .ok (.aload_n 0, 1) := by decide +kernel
theorem dM_square_45 : decode b_M_square 45 = .ok (.getfield 64, 3) := by decide +kernel
theorem dM_square_48 : decode b_M_square 48 = .ok (.if_icmp .ge 116, 3) := by decide +kernel
theorem dM_square_51 : decode b_M_square 51 = .ok (.iconst 0, 1) := by decide +kernel
theorem dM_square_52 : decode b_M_square 52 = .ok (.istore 8, 2) := by decide +kernel
theorem dM_square_54 : decode b_M_square 54 = .ok (.iload 8, 2) := by decide +kernel
theorem dM_square_56 : decode b_M_square 56 = .ok (.aload_n 0, 1) := by decide +kernel
theorem dM_square_57 : decode b_M_square 57 = .ok (.getfield 64, 3) := by decide +kernel
theorem dM_square_60 : decode b_M_square 60 = .ok (.if_icmp .ge 98, 3) := by decide +kernel
theorem dM_square_63 : decode b_M_square 63 = .ok (.aload_n 0, 1) := by decide +kernel
theorem dM_square_64 : decode b_M_square 64 = .ok (.getfield 7, 3) := by decide +kernel
theorem dM_square_67 : decode b_M_square 67 = .ok (.bipush 100, 2) := by decide +kernel
theorem dM_square_69 : decode b_M_square 69 = .ok (.iload_n 1, 1) := by decide +kernel
theorem dM_square_70 : decode b_M_square 70 = .ok (.imul, 1) := by decide +kernel
theorem dM_square_71 : decode b_M_square 71 = .ok (.bipush 10, 2) := by decide +kernel
theorem dM_square_73 : decode b_M_square 73 = .ok (.iload 7, 2) := by decide +kernel
theorem dM_square_75 : decode b_M_square 75 = .ok (.imul, 1) := by decide +kernel
theorem dM_square_76 : decode b_M_square 76 = .ok (.iadd, 1) := by decide +kernel
theorem dM_square_77 : decode b_M_square 77 = .ok (.iload 8, 2) := by decide +kernel
theorem dM_square_79 : decode b_M_square 79 = .ok (.iadd, 1) := by decide +kernel
theorem dM_square_80 : decode b_M_square 80 = .ok (.baload, 1) := by decide +kernel
theorem dM_square_81 : decode b_M_square 81 = .ok (.ifCond .ne 71, 3) := by decide +kernel
theorem dM_square_84 : decode b_M_square 84 = .ok (.iload_n 2, 1) := by decide +kernel
theorem dM_square_85 : decode b_M_square 85 = .ok (.iload 8, 2) := by decide +kernel
theorem dM_square_87 : decode b_M_square 87 = .ok (.aload_n 0, 1) := by decide +kernel
theorem dM_square_88 : decode b_M_square 88 = .ok (.getfield 67, 3) := by decide +kernel
theorem dM_square_91 : decode b_M_square 91 = .ok (.imul, 1) := by decide +kernel
theorem dM_square_92 : decode b_M_square 92 = .ok (.iload 8, 2) := by decide +kernel
theorem dM_square_94 : decode b_M_square 94 = .ok (.aload_n 0, 1) := by decide +kernel
theorem dM_square_95 : decode b_M_square 95 = .ok (.getfield 67, 3) := by decide +kernel
theorem dM_square_98 : decode b_M_square 98 = .ok (.imul, 1) := by decide +kernel
theorem dM_square_99 : decode b_M_square 99 = .ok (.aload_n 0, 1) := by decide +kernel
theorem dM_square_100 : decode b_M_square 100 = .ok (.getfield 67, 3) := by decide +kernel
theorem dM_square_103 : decode b_M_square 103 = .ok (.iadd, 1) := by decide +kernel
theorem dM_square_104 : decode b_M_square 104 = .ok (.invokestatic 91, 3) := by decide +kernel
theorem dM_square_107 : decode b_M_square 107 = .ok (.istore 9, 2) := by decide +kernel
theorem dM_square_109 : decode b_M_square 109 = .ok (.iload_n 3, 1) := by decide +kernel
theorem dM_square_110 : decode b_M_square 110 = .ok (.iload 7, 2) := by decide +kernel
theorem dM_square_112 : decode b_M_square 112 = .ok (.aload_n 0, 1) := by decide +kernel
theorem dM_square_113 : decode b_M_square 113 = .ok (.getfield 67, 3) := by decide +kernel
theorem dM_square_116 : decode b_M_square 116 = .ok (.imul, 1) := by decide +kernel
theorem dM_square_117 : decode b_M_square 117 = .ok (.iload 7, 2) := by decide +kernel
theorem dM_square_119 : decode b_M_square 119 = .ok (.aload_n 0, 1) := by decide +kernel
theorem dM_square_120 : decode b_M_square 120 = .ok (.getfield 67, 3) := by decide +kernel
theorem dM_square_123 : decode b_M_square 123 = .ok (.imul, 1) := by decide +kernel
theorem dM_square_124 : decode b_M_square 124 = .ok (.aload_n 0, 1) := by decide +kernel
theorem dM_square_125 : decode b_M_square 125 = .ok (.getfield 67, 3) := by decide +kernel
theorem dM_square_128 : decode b_M_square 128 = .ok (.iadd, 1) := by decide +kernel
theorem dM_square_129 : decode b_M_square 129 = .ok (.invokestatic 91, 3) := by decide +kernel
theorem dM_square_132 : decode b_M_square 132 = .ok (.istore 10, 2) := by decide +kernel
theorem dM_square_134 : decode b_M_square 134 = .ok (.iload 6, 2) := by decide +kernel
theorem dM_square_136 : decode b_M_square 136 = .ok (.iload 9, 2) := by decide +kernel
theorem dM_square_138 : decode b_M_square 138 = .ok (.iload 9, 2) := by decide +kernel
theorem dM_square_140 : decode b_M_square 140 = .ok (.imul, 1) := by decide +kernel
theorem dM_square_141 : decode b_M_square 141 = .ok (.iload 10, 2) := by decide +kernel
theorem dM_square_143 : decode b_M_square 143 = .ok (.iload 10, 2) := by decide +kernel
theorem dM_square_145 : decode b_M_square 145 = .ok (.imul, 1) := by decide +kernel
theorem dM_square_146 : decode b_M_square 146 = .ok (.iadd, 1) := by decide +kernel
theorem dM_square_147 : decode b_M_square 147 = .ok (.invokestatic 87, 3) := by decide +kernel
theorem dM_square_150 : decode b_M_square 150 = .ok (.istore 6, 2) := by decide +kernel
theorem dM_square_152 : decode b_M_square 152 = .ok (.iinc 8 1, 3) := by decide +kernel
theorem dM_square_155 : decode b_M_square 155 = .ok (.goto (-101), 3) := by decide +kernel
theorem dM_square_158 : decode b_M_square 158 = .ok (.iinc 7 1, 3) := by decide +kernel
theorem dM_square_161 : decode b_M_square 161 = .ok (.goto (-119), 3) := by decide +kernel
theorem dM_square_164 : decode b_M_square 164 = .ok (.iload 6, 2) := by decide +kernel
theorem dM_square_166 : decode b_M_square 166 = .ok (.ireturn, 1) := by decide +kernel
theorem dM_roomAt_0 : decode b_M_roomAt 0 = .ok (.ldc 95, 2) := by decide +kernel
theorem dM_roomAt_2 : decode b_M_roomAt 2 = .ok (.istore 5, 2) := by decide +kernel
theorem dM_roomAt_4 : decode b_M_roomAt 4 = .ok (.iconst 0, 1) := by decide +kernel
theorem dM_roomAt_5 : decode b_M_roomAt 5 = .ok (.istore 6, 2) := by decide +kernel
theorem dM_roomAt_7 : decode b_M_roomAt 7 = .ok (.iload 6, 2) := by decide +kernel
theorem dM_roomAt_9 : decode b_M_roomAt 9 = .ok (.aload_n 0, 1) := by decide +kernel
theorem dM_roomAt_10 : decode b_M_roomAt 10 = .ok (.getfield 60, 3) := by decide +kernel
theorem dM_roomAt_13 : decode b_M_roomAt 13 = .ok (.if_icmp .ge 67, 3) := by decide +kernel
theorem dM_roomAt_16 : decode b_M_roomAt 16 = .ok (.iload_n 1, 1) := by decide +kernel
theorem dM_roomAt_17 : decode b_M_roomAt 17 = .ok (.aload_n 0, 1) := by decide +kernel
theorem dM_roomAt_18 : decode b_M_roomAt 18 = .ok (.getfield 67, 3) := by decide +kernel
theorem dM_roomAt_21 : decode b_M_roomAt 21 = .ok (.imul, 1) := by decide +kernel
theorem dM_roomAt_22 : decode b_M_roomAt 22 = .ok (.iload_n 3, 1) := by decide +kernel
theorem dM_roomAt_23 : decode b_M_roomAt 23 = .ok (.iload_n 1, 1) := by decide +kernel
theorem dM_roomAt_24 : decode b_M_roomAt 24 = .ok (.isub, 1) := by decide +kernel
theorem dM_roomAt_25 : decode b_M_roomAt 25 = .ok (.iload 6, 2) := by decide +kernel
theorem dM_roomAt_27 : decode b_M_roomAt 27 = .ok (.imul, 1) := by decide +kernel
theorem dM_roomAt_28 : decode b_M_roomAt 28 = .ok (.iadd, 1) := by decide +kernel
theorem dM_roomAt_29 : decode b_M_roomAt 29 = .ok (.istore 7, 2) := by decide +kernel
theorem dM_roomAt_31 : decode b_M_roomAt 31 = .ok (.iload_n 2, 1) := by decide +kernel
theorem dM_roomAt_32 : decode b_M_roomAt 32 = .ok (.aload_n 0, 1) := by decide +kernel
theorem dM_roomAt_33 : decode b_M_roomAt 33 = .ok (.getfield 67, 3) := by decide +kernel
theorem dM_roomAt_36 : decode b_M_roomAt 36 = .ok (.imul, 1) := by decide +kernel
theorem dM_roomAt_37 : decode b_M_roomAt 37 = .ok (.iload 4, 2) := by decide +kernel
theorem dM_roomAt_39 : decode b_M_roomAt 39 = .ok (.iload_n 2, 1) := by decide +kernel
theorem dM_roomAt_40 : decode b_M_roomAt 40 = .ok (.isub, 1) := by decide +kernel
theorem dM_roomAt_41 : decode b_M_roomAt 41 = .ok (.iload 6, 2) := by decide +kernel
theorem dM_roomAt_43 : decode b_M_roomAt 43 = .ok (.imul, 1) := by decide +kernel
theorem dM_roomAt_44 : decode b_M_roomAt 44 = .ok (.iadd, 1) := by decide +kernel
theorem dM_roomAt_45 : decode b_M_roomAt 45 = .ok (.istore 8, 2) := by decide +kernel
theorem dM_roomAt_47 : decode b_M_roomAt 47 = .ok (.iload 5, 2) := by decide +kernel
theorem dM_roomAt_49 : decode b_M_roomAt 49 = .ok (.aload_n 0, 1) := by decide +kernel
theorem dM_roomAt_50 : decode b_M_roomAt 50 = .ok (.getfield 13, 3) := by decide +kernel
theorem dM_roomAt_53 : decode b_M_roomAt 53 = .ok (.sipush 961, 3) := by decide +kernel
theorem dM_roomAt_56 : decode b_M_roomAt 56 = .ok (.iload 6, 2) := by decide +kernel
theorem dM_roomAt_58 : decode b_M_roomAt 58 = .ok (.imul, 1) := by decide +kernel
theorem dM_roomAt_59 : decode b_M_roomAt 59 = .ok (.bipush 31, 2) := by decide +kernel
theorem dM_roomAt_61 : decode b_M_roomAt 61 = .ok (.iload 8, 2) := by decide +kernel
theorem dM_roomAt_63 : decode b_M_roomAt 63 = .ok (.imul, 1) := by decide +kernel
theorem dM_roomAt_64 : decode b_M_roomAt 64 = .ok (.iadd, 1) := by decide +kernel
theorem dM_roomAt_65 : decode b_M_roomAt 65 = .ok (.iload 7, 2) := by decide +kernel
theorem dM_roomAt_67 : decode b_M_roomAt 67 = .ok (.iadd, 1) := by decide +kernel
theorem dM_roomAt_68 : decode b_M_roomAt 68 = .ok (.iaload, 1) := by decide +kernel
theorem dM_roomAt_69 : decode b_M_roomAt 69 = .ok (.invokestatic 87, 3) := by decide +kernel
theorem dM_roomAt_72 : decode b_M_roomAt 72 = .ok (.istore 5, 2) := by decide +kernel
theorem dM_roomAt_74 : decode b_M_roomAt 74 = .ok (.iinc 6 1, 3) := by decide +kernel
theorem dM_roomAt_77 : decode b_M_roomAt 77 = .ok (.goto (-70), 3) := by decide +kernel
theorem dM_roomAt_80 : decode b_M_roomAt 80 = .ok (.iload 5, 2) := by decide +kernel
theorem dM_roomAt_82 : decode b_M_roomAt 82 = .ok (.ireturn, 1) := by decide +kernel
theorem dM_know_0 : decode b_M_know 0 = .ok (.aload_n 0, 1) := by decide +kernel
theorem dM_know_1 : decode b_M_know 1 = .ok (.getfield 77, 3) := by decide +kernel
theorem dM_know_4 : decode b_M_know 4 = .ok (.ifCond .eq 4, 3) := by decide +kernel
theorem dM_know_7 : decode b_M_know 7 = .ok (.return_, 1) := by decide +kernel
theorem dM_know_8 : decode b_M_know 8 = .ok (.iconst 0, 1) := by decide +kernel
theorem dM_know_9 : decode b_M_know 9 = .ok (.istore_n 1, 1) := by decide +kernel
theorem dM_know_10 : decode b_M_know 10 = .ok (.iload_n 1, 1) := by decide +kernel
theorem dM_know_11 : decode b_M_know 11 = .ok (.aload_n 0, 1) := by decide +kernel
theorem dM_know_12 : decode b_M_know 12 = .ok (.getfield 60, 3) := by decide +kernel
theorem dM_know_15 : decode b_M_know 15 = .ok (.if_icmp .ge 75, 3) := by decide +kernel
theorem dM_know_18 : decode b_M_know 18 = .ok (.iconst 0, 1) := by decide +kernel
theorem dM_know_19 : decode b_M_know 19 = .ok (.istore_n 2, 1) := by decide +kernel
theorem dM_know_20 : decode b_M_know 20 = .ok (.iload_n 2, 1) := by decide +kernel
theorem dM_know_21 : decode b_M_know 21 = .ok (.aload_n 0, 1) := by decide +kernel
theorem dM_know_22 : decode b_M_know 22 = .ok (.getfield 64, 3) := by decide +kernel
theorem dM_know_25 : decode b_M_know 25 = .ok (.aload_n 0, 1) := by decide +kernel
theorem dM_know_26 : decode b_M_know 26 = .ok (.getfield 67, 3) := by decide +kernel
theorem dM_know_29 : decode b_M_know 29 = .ok (.imul, 1) := by decide +kernel
theorem dM_know_30 : decode b_M_know 30 = .ok (.if_icmp .gt 54, 3) := by decide +kernel
theorem dM_know_33 : decode b_M_know 33 = .ok (.iconst 0, 1) := by decide +kernel
theorem dM_know_34 : decode b_M_know 34 = .ok (.istore_n 3, 1) := by decide +kernel
theorem dM_know_35 : decode b_M_know 35 = .ok (.iload_n 3, 1) := by decide +kernel
theorem dM_know_36 : decode b_M_know 36 = .ok (.aload_n 0, 1) := by decide +kernel
theorem dM_know_37 : decode b_M_know 37 = .ok (.getfield 64, 3) := by decide +kernel
theorem dM_know_40 : decode b_M_know 40 = .ok (.aload_n 0, 1) := by decide +kernel
theorem dM_know_41 : decode b_M_know 41 = .ok (.getfield 67, 3) := by decide +kernel
theorem dM_know_44 : decode b_M_know 44 = .ok (.imul, 1) := by decide +kernel
theorem dM_know_45 : decode b_M_know 45 = .ok (.if_icmp .gt 33, 3) := by decide +kernel
theorem dM_know_48 : decode b_M_know 48 = .ok (.aload_n 0, 1) := by decide +kernel
theorem dM_know_49 : decode b_M_know 49 = .ok (.getfield 13, 3) := by decide +kernel
theorem dM_know_52 : decode b_M_know 52 = .ok (.sipush 961, 3) := by decide +kernel
theorem dM_know_55 : decode b_M_know 55 = .ok (.iload_n 1, 1) := by decide +kernel
theorem dM_know_56 : decode b_M_know 56 = .ok (.imul, 1) := by decide +kernel
theorem dM_know_57 : decode b_M_know 57 = .ok (.bipush 31, 2) := by decide +kernel
theorem dM_know_59 : decode b_M_know 59 = .ok (.iload_n 2, 1) := by decide +kernel
theorem dM_know_60 : decode b_M_know 60 = .ok (.imul, 1) := by decide +kernel
theorem dM_know_61 : decode b_M_know 61 = .ok (.iadd, 1) := by decide +kernel
theorem dM_know_62 : decode b_M_know 62 = .ok (.iload_n 3, 1) := by decide +kernel
theorem dM_know_63 : decode b_M_know 63 = .ok (.iadd, 1) := by decide +kernel
theorem dM_know_64 : decode b_M_know 64 = .ok (.aload_n 0, 1) := by decide +kernel
theorem dM_know_65 : decode b_M_know 65 = .ok (.iload_n 1, 1) := by decide +kernel
theorem dM_know_66 : decode b_M_know 66 = .ok (.iload_n 3, 1) := by decide +kernel
theorem dM_know_67 : decode b_M_know 67 = .ok (.iload_n 2, 1) := by decide +kernel
theorem dM_know_68 : decode b_M_know 68 = .ok (.invokevirtual 96, 3) := by decide +kernel
theorem dM_know_71 : decode b_M_know 71 = .ok (.iastore, 1) := by decide +kernel
theorem dM_know_72 : decode b_M_know 72 = .ok (.iinc 3 1, 3) := by decide +kernel
theorem dM_know_75 : decode b_M_know 75 = .ok (.goto (-40), 3) := by decide +kernel
theorem dM_know_78 : decode b_M_know 78 = .ok (.iinc 2 1, 3) := by decide +kernel
theorem dM_know_81 : decode b_M_know 81 = .ok (.goto (-61), 3) := by decide +kernel
theorem dM_know_84 : decode b_M_know 84 = .ok (.iinc 1 1, 3) := by decide +kernel
theorem dM_know_87 : decode b_M_know 87 = .ok (.goto (-77), 3) := by decide +kernel
theorem dM_know_90 : decode b_M_know 90 = .ok (.aload_n 0, 1) := by decide +kernel
theorem dM_know_91 : decode b_M_know 91 = .ok (.iconst (-1), 1) := by decide +kernel
theorem dM_know_92 : decode b_M_know 92 = .ok (.putfield 99, 3) := by decide +kernel
theorem dM_know_95 : decode b_M_know 95 = .ok (.aload_n 0, 1) := by decide +kernel
theorem dM_know_96 : decode b_M_know 96 = .ok (.getfield 64, 3) := by decide +kernel
theorem dM_know_99 : decode b_M_know 99 = .ok (.iconst 1, 1) := by decide +kernel
theorem dM_know_100 : decode b_M_know 100 = .ok (.iadd, 1) := by decide +kernel
theorem dM_know_101 : decode b_M_know 101 = .ok (.istore_n 1, 1) := by decide +kernel
theorem dM_know_102 : decode b_M_know 102 = .ok (.iconst 0, 1) := by decide +kernel
theorem dM_know_103 : decode b_M_know 103 = .ok (.istore_n 2, 1) := by decide +kernel
theorem dM_know_104 : decode b_M_know 104 = .ok (.iload_n 2, 1) := by decide +kernel
theorem dM_know_105 : decode b_M_know 105 = .ok (.iload_n 1, 1) := by decide +kernel
theorem dM_know_106 : decode b_M_know 106 = .ok (.iload_n 1, 1) := by decide +kernel
theorem dM_know_107 : decode b_M_know 107 = .ok (.imul, 1) := by decide +kernel
theorem dM_know_108 : decode b_M_know 108 = .ok (.iload_n 1, 1) := by decide +kernel
theorem dM_know_109 : decode b_M_know 109 = .ok (.imul, 1) := by decide +kernel
theorem dM_know_110 : decode b_M_know 110 = .ok (.iload_n 1, 1) := by decide +kernel
theorem dM_know_111 : decode b_M_know 111 = .ok (.imul, 1) := by decide +kernel
theorem dM_know_112 : decode b_M_know 112 = .ok (.if_icmp .ge 97, 3) := by decide +kernel
theorem dM_know_115 : decode b_M_know 115 = .ok (.iload_n 2, 1) := by decide +kernel
theorem dM_know_116 : decode b_M_know 116 = .ok (.iload_n 1, 1) := by decide +kernel
theorem dM_know_117 : decode b_M_know 117 = .ok (.irem, 1) := by decide +kernel
theorem dM_know_118 : decode b_M_know 118 = .ok (.istore_n 3, 1) := by decide +kernel
theorem dM_know_119 : decode b_M_know 119 = .ok (.iload_n 2, 1) := by decide +kernel
theorem dM_know_120 : decode b_M_know 120 = .ok (.iload_n 1, 1) := by decide +kernel
theorem dM_know_121 : decode b_M_know 121 = .ok (.idiv, 1) := by decide +kernel
theorem dM_know_122 : decode b_M_know 122 = .ok (.iload_n 1, 1) := by decide +kernel
theorem dM_know_123 : decode b_M_know 123 = .ok (.irem, 1) := by decide +kernel
theorem dM_know_124 : decode b_M_know 124 = .ok (.istore 4, 2) := by decide +kernel
theorem dM_know_126 : decode b_M_know 126 = .ok (.iload_n 2, 1) := by decide +kernel
theorem dM_know_127 : decode b_M_know 127 = .ok (.iload_n 1, 1) := by decide +kernel
theorem dM_know_128 : decode b_M_know 128 = .ok (.idiv, 1) := by decide +kernel
theorem dM_know_129 : decode b_M_know 129 = .ok (.iload_n 1, 1) := by decide +kernel
theorem dM_know_130 : decode b_M_know 130 = .ok (.idiv, 1) := by decide +kernel
theorem dM_know_131 : decode b_M_know 131 = .ok (.iload_n 1, 1) := by decide +kernel
theorem dM_know_132 : decode b_M_know 132 = .ok (.irem, 1) := by decide +kernel
theorem dM_know_133 : decode b_M_know 133 = .ok (.istore 5, 2) := by decide +kernel
theorem dM_know_135 : decode b_M_know 135 = .ok (.iload_n 2, 1) := by decide +kernel
theorem dM_know_136 : decode b_M_know 136 = .ok (.iload_n 1, 1) := by decide +kernel
theorem dM_know_137 : decode b_M_know 137 = .ok (.idiv, 1) := by decide +kernel
theorem dM_know_138 : decode b_M_know 138 = .ok (.iload_n 1, 1) := by decide +kernel
theorem dM_know_139 : decode b_M_know 139 = .ok (.idiv, 1) := by decide +kernel
theorem dM_know_140 : decode b_M_know 140 = .ok (.iload_n 1, 1) := by decide +kernel
theorem dM_know_141 : decode b_M_know 141 = .ok (.idiv, 1) := by decide +kernel
theorem dM_know_142 : decode b_M_know 142 = .ok (.istore 6, 2) := by decide +kernel
theorem dM_know_144 : decode b_M_know 144 = .ok (.aload_n 0, 1) := by decide +kernel
theorem dM_know_145 : decode b_M_know 145 = .ok (.iload 6, 2) := by decide +kernel
theorem dM_know_147 : decode b_M_know 147 = .ok (.iload 5, 2) := by decide +kernel
theorem dM_know_149 : decode b_M_know 149 = .ok (.iload 4, 2) := by decide +kernel
theorem dM_know_151 : decode b_M_know 151 = .ok (.iload_n 3, 1) := by decide +kernel
theorem dM_know_152 : decode b_M_know 152 = .ok (.invokevirtual 102, 3) := by decide +kernel
theorem dM_know_155 : decode b_M_know 155 = .ok (.istore 7, 2) := by decide +kernel
theorem dM_know_157 : decode b_M_know 157 = .ok (.iload 7, 2) := by decide +kernel
theorem dM_know_159 : decode b_M_know 159 = .ok (.aload_n 0, 1) := by decide +kernel
theorem dM_know_160 : decode b_M_know 160 = .ok (.getfield 99, 3) := by decide +kernel
theorem dM_know_163 : decode b_M_know 163 = .ok (.if_icmp .le 40, 3) := by decide +kernel
theorem dM_know_166 : decode b_M_know 166 = .ok (.aload_n 0, 1) := by decide +kernel
theorem dM_know_167 : decode b_M_know 167 = .ok (.iload 7, 2) := by decide +kernel
theorem dM_know_169 : decode b_M_know 169 = .ok (.putfield 99, 3) := by decide +kernel
theorem dM_know_172 : decode b_M_know 172 = .ok (.aload_n 0, 1) := by decide +kernel
theorem dM_know_173 : decode b_M_know 173 = .ok (.getfield 17, 3) := by decide +kernel
theorem dM_know_176 : decode b_M_know 176 = .ok (.iconst 0, 1) := by decide +kernel
theorem dM_know_177 : decode b_M_know 177 = .ok (.iload 6, 2) := by decide +kernel
theorem dM_know_179 : decode b_M_know 179 = .ok (.iastore, 1) := by decide +kernel
theorem dM_know_180 : decode b_M_know 180 = .ok (.aload_n 0, 1) := by decide +kernel
theorem dM_know_181 : decode b_M_know 181 = .ok (.getfield 17, 3) := by decide +kernel
theorem dM_know_184 : decode b_M_know 184 = .ok (.iconst 1, 1) := by decide +kernel
theorem dM_know_185 : decode b_M_know 185 = .ok (.iload 5, 2) := by decide +kernel
theorem dM_know_187 : decode b_M_know 187 = .ok (.iastore, 1) := by decide +kernel
theorem dM_know_188 : decode b_M_know 188 = .ok (.aload_n 0, 1) := by decide +kernel
theorem dM_know_189 : decode b_M_know 189 = .ok (.getfield 17, 3) := by decide +kernel
theorem dM_know_192 : decode b_M_know 192 = .ok (.iconst 2, 1) := by decide +kernel
theorem dM_know_193 : decode b_M_know 193 = .ok (.iload 4, 2) := by decide +kernel
theorem dM_know_195 : decode b_M_know 195 = .ok (.iastore, 1) := by decide +kernel
theorem dM_know_196 : decode b_M_know 196 = .ok (.aload_n 0, 1) := by decide +kernel
theorem dM_know_197 : decode b_M_know 197 = .ok (.getfield 17, 3) := by decide +kernel
theorem dM_know_200 : decode b_M_know 200 = .ok (.iconst 3, 1) := by decide +kernel
theorem dM_know_201 : decode b_M_know 201 = .ok (.iload_n 3, 1) := by decide +kernel
theorem dM_know_202 : decode b_M_know 202 = .ok (.iastore, 1) := by decide +kernel
theorem dM_know_203 : decode b_M_know 203 = .ok (.iinc 2 1, 3) := by decide +kernel
theorem dM_know_206 : decode b_M_know 206 = .ok (.goto (-102), 3) := by decide +kernel
theorem dM_know_209 : decode b_M_know 209 = .ok (.aload_n 0, 1) := by decide +kernel
theorem dM_know_210 : decode b_M_know 210 = .ok (.iconst 1, 1) := by decide +kernel
theorem dM_know_211 : decode b_M_know 211 = .ok (.putfield 77, 3) := by decide +kernel
theorem dM_know_214 : decode b_M_know 214 = .ok (.return_, 1) := by decide +kernel
theorem dM_room_0 : decode b_M_room 0 = .ok (.aload_n 0, 1) := by decide +kernel
theorem dM_room_1 : decode b_M_room 1 = .ok (.iconst 0, 1) := by decide +kernel
theorem dM_room_2 : decode b_M_room 2 = .ok (.putfield 70, 3) := by decide +kernel
theorem dM_room_5 : decode b_M_room 5 = .ok (.aload_n 0, 1) := by decide +kernel
theorem dM_room_6 : decode b_M_room 6 = .ok (.invokevirtual 106, 3) := by decide +kernel
theorem dM_room_9 : decode b_M_room 9 = .ok (.aload_n 0, 1) := by decide +kernel
theorem dM_room_10 : decode b_M_room 10 = .ok (.getfield 99, 3) := by decide +kernel
theorem dM_room_13 : decode b_M_room 13 = .ok (.ireturn, 1) := by decide +kernel
theorem dM_axis_0 : decode b_M_axis 0 = .ok (.aload_n 0, 1) := by decide +kernel
theorem dM_axis_1 : decode b_M_axis 1 = .ok (.iload_n 1, 1) := by decide +kernel
theorem dM_axis_2 : decode b_M_axis 2 = .ok (.iconst 0, 1) := by decide +kernel
theorem dM_axis_3 : decode b_M_axis 3 = .ok (.iconst 3, 1) := by decide +kernel
theorem dM_axis_4 : decode b_M_axis 4 = .ok (.invokestatic 73, 3) := by decide +kernel
theorem dM_axis_7 : decode b_M_axis 7 = .ok (.ifCond .eq 7, 3) := by decide +kernel
theorem dM_axis_10 : decode b_M_axis 10 = .ok (.iconst 0, 1) := by decide +kernel
theorem dM_axis_11 : decode b_M_axis 11 = .ok (.goto 4, 3) := by decide +kernel
theorem dM_axis_14 : decode b_M_axis 14 = .ok (.iconst 1, 1) := by decide +kernel
theorem dM_axis_15 : decode b_M_axis 15 = .ok (.putfield 70, 3) := by decide +kernel
theorem dM_axis_18 : decode b_M_axis 18 = .ok (.aload_n 0, 1) := by decide +kernel
theorem dM_axis_19 : decode b_M_axis 19 = .ok (.getfield 70, 3) := by decide +kernel
theorem dM_axis_22 : decode b_M_axis 22 = .ok (.ifCond .le 5, 3) := by decide +kernel
theorem dM_axis_25 : decode b_M_axis 25 = .ok (.iconst 0, 1) := by decide +kernel
theorem dM_axis_26 : decode b_M_axis 26 = .ok (.ireturn, 1) := by decide +kernel
theorem dM_axis_27 : decode b_M_axis 27 = .ok (.aload_n 0, 1) := by decide +kernel
theorem dM_axis_28 : decode b_M_axis 28 = .ok (.invokevirtual 106, 3) := by decide +kernel
theorem dM_axis_31 : decode b_M_axis 31 = .ok (.aload_n 0, 1) := by decide +kernel
theorem dM_axis_32 : decode b_M_axis 32 = .ok (.getfield 17, 3) := by decide +kernel
theorem dM_axis_35 : decode b_M_axis 35 = .ok (.iload_n 1, 1) := by decide +kernel
theorem dM_axis_36 : decode b_M_axis 36 = .ok (.iaload, 1) := by decide +kernel
theorem dM_axis_37 : decode b_M_axis 37 = .ok (.ireturn, 1) := by decide +kernel
theorem dM_radius_0 : decode b_M_radius 0 = .ok (.aload_n 0, 1) := by decide +kernel
theorem dM_radius_1 : decode b_M_radius 1 = .ok (.iconst 0, 1) := by decide +kernel
theorem dM_radius_2 : decode b_M_radius 2 = .ok (.putfield 70, 3) := by decide +kernel
theorem dM_radius_5 : decode b_M_radius 5 = .ok (.aload_n 0, 1) := by decide +kernel
theorem dM_radius_6 : decode b_M_radius 6 = .ok (.invokevirtual 106, 3) := by decide +kernel
theorem dM_radius_9 : decode b_M_radius 9 = .ok (.iconst 0, 1) := by decide +kernel
theorem dM_radius_10 : decode b_M_radius 10 = .ok (.istore_n 1, 1) := by decide +kernel
theorem dM_radius_11 : decode b_M_radius 11 = .ok (.iload_n 1, 1) := by decide +kernel
theorem dM_radius_12 : decode b_M_radius 12 = .ok (.iconst 1, 1) := by decide +kernel
theorem dM_radius_13 : decode b_M_radius 13 = .ok (.iadd, 1) := by decide +kernel
theorem dM_radius_14 : decode b_M_radius 14 = .ok (.iload_n 1, 1) := by decide +kernel
theorem dM_radius_15 : decode b_M_radius 15 = .ok (.iconst 1, 1) := by decide +kernel
theorem dM_radius_16 : decode b_M_radius 16 = .ok (.iadd, 1) := by decide +kernel
theorem dM_radius_17 : decode b_M_radius 17 = .ok (.imul, 1) := by decide +kernel
theorem dM_radius_18 : decode b_M_radius 18 = .ok (.aload_n 0, 1) := by decide +kernel
theorem dM_radius_19 : decode b_M_radius 19 = .ok (.getfield 99, 3) := by decide +kernel
theorem dM_radius_22 : decode b_M_radius 22 = .ok (.sipush 10000, 3) := by decide +kernel
theorem dM_radius_25 : decode b_M_radius 25 = .ok (.imul, 1) := by decide +kernel
theorem dM_radius_26 : decode b_M_radius 26 = .ok (.if_icmp .gt 9, 3) := by decide +kernel
theorem dM_radius_29 : decode b_M_radius 29 = .ok (.iinc 1 1, 3) := by decide +kernel
theorem dM_radius_32 : decode b_M_radius 32 = .ok (.goto (-21), 3) := by decide +kernel
theorem dM_radius_35 : decode b_M_radius 35 = .ok (.iload_n 1, 1) := by decide +kernel
theorem dM_radius_36 : decode b_M_radius 36 = .ok (.aload_n 0, 1) := by decide +kernel
theorem dM_radius_37 : decode b_M_radius 37 = .ok (.getfield 67, 3) := by decide +kernel
theorem dM_radius_40 : decode b_M_radius 40 = .ok (.idiv, 1) := by decide +kernel
theorem dM_radius_41 : decode b_M_radius 41 = .ok (.ireturn, 1) := by decide +kernel
theorem dM_roomOf_0 : decode b_M_roomOf 0 = .ok (.aload_n 0, 1) := by decide +kernel
theorem dM_roomOf_1 : decode b_M_roomOf 1 = .ok (.iload_n 1, 1) := by decide +kernel
theorem dM_roomOf_2 : decode b_M_roomOf 2 = .ok (.iconst 0, 1) := by decide +kernel
theorem dM_roomOf_3 : decode b_M_roomOf 3 = .ok (.aload_n 0, 1) := by decide +kernel
theorem dM_roomOf_4 : decode b_M_roomOf 4 = .ok (.getfield 64, 3) := by decide +kernel
theorem dM_roomOf_7 : decode b_M_roomOf 7 = .ok (.invokestatic 73, 3) := by decide +kernel
theorem dM_roomOf_10 : decode b_M_roomOf 10 = .ok (.ifCond .eq 44, 3) := by decide +kernel
theorem dM_roomOf_13 : decode b_M_roomOf 13 = .ok (.iload_n 2, 1) := by decide +kernel
theorem dM_roomOf_14 : decode b_M_roomOf 14 = .ok (.iconst 0, 1) := by decide +kernel
theorem dM_roomOf_15 : decode b_M_roomOf 15 = .ok (.aload_n 0, 1) := by decide +kernel
theorem dM_roomOf_16 : decode b_M_roomOf 16 = .ok (.getfield 64, 3) := by decide +kernel
theorem dM_roomOf_19 : decode b_M_roomOf 19 = .ok (.invokestatic 73, 3) := by decide +kernel
theorem dM_roomOf_22 : decode b_M_roomOf 22 = .ok (.ifCond .eq 32, 3) := by decide +kernel
theorem dM_roomOf_25 : decode b_M_roomOf 25 = .ok (.iload_n 3, 1) := by decide +kernel
theorem dM_roomOf_26 : decode b_M_roomOf 26 = .ok (.iconst 0, 1) := by decide +kernel
theorem dM_roomOf_27 : decode b_M_roomOf 27 = .ok (.aload_n 0, 1) := by decide +kernel
theorem dM_roomOf_28 : decode b_M_roomOf 28 = .ok (.getfield 64, 3) := by decide +kernel
theorem dM_roomOf_31 : decode b_M_roomOf 31 = .ok (.invokestatic 73, 3) := by decide +kernel
theorem dM_roomOf_34 : decode b_M_roomOf 34 = .ok (.ifCond .eq 20, 3) := by decide +kernel
theorem dM_roomOf_37 : decode b_M_roomOf 37 = .ok (.iload 4, 2) := by decide +kernel
theorem dM_roomOf_39 : decode b_M_roomOf 39 = .ok (.iconst 0, 1) := by decide +kernel
theorem dM_roomOf_40 : decode b_M_roomOf 40 = .ok (.aload_n 0, 1) := by decide +kernel
theorem dM_roomOf_41 : decode b_M_roomOf 41 = .ok (.getfield 64, 3) := by decide +kernel
theorem dM_roomOf_44 : decode b_M_roomOf 44 = .ok (.invokestatic 73, 3) := by decide +kernel
theorem dM_roomOf_47 : decode b_M_roomOf 47 = .ok (.ifCond .eq 7, 3) := by decide +kernel
theorem dM_roomOf_50 : decode b_M_roomOf 50 = .ok (.iconst 0, 1) := by decide +kernel
theorem dM_roomOf_51 : decode b_M_roomOf 51 = .ok (.goto 4, 3) := by decide +kernel
theorem dM_roomOf_54 : decode b_M_roomOf 54 = .ok (.iconst 1, 1) := by decide +kernel
theorem dM_roomOf_55 : decode b_M_roomOf 55 = .ok (.putfield 70, 3) := by decide +kernel
theorem dM_roomOf_58 : decode b_M_roomOf 58 = .ok (.aload_n 0, 1) := by decide +kernel
theorem dM_roomOf_59 : decode b_M_roomOf 59 = .ok (.getfield 70, 3) := by decide +kernel
theorem dM_roomOf_62 : decode b_M_roomOf 62 = .ok (.ifCond .le 5, 3) := by decide +kernel
theorem dM_roomOf_65 : decode b_M_roomOf 65 = .ok (.iconst 0, 1) := by decide +kernel
theorem dM_roomOf_66 : decode b_M_roomOf 66 = .ok (.ireturn, 1) := by decide +kernel
theorem dM_roomOf_67 : decode b_M_roomOf 67 = .ok (.aload_n 0, 1) := by decide +kernel
theorem dM_roomOf_68 : decode b_M_roomOf 68 = .ok (.invokevirtual 106, 3) := by decide +kernel
end
section
theorem dM_roomOf_71 : decode b_M_roomOf 71 = .ok (.aload_n 0, 1) := by decide +kernel
theorem dM_roomOf_72 : decode b_M_roomOf 72 = .ok (.iload_n 1, 1) := by decide +kernel
theorem dM_roomOf_73 : decode b_M_roomOf 73 = .ok (.iload_n 2, 1) := by decide +kernel
theorem dM_roomOf_74 : decode b_M_roomOf 74 = .ok (.iload_n 3, 1) := by decide +kernel
theorem dM_roomOf_75 : decode b_M_roomOf 75 = .ok (.iload 4, 2) := by decide +kernel
theorem dM_roomOf_77 : decode b_M_roomOf 77 = .ok (.invokevirtual 102, 3) := by decide +kernel
theorem dM_roomOf_80 : decode b_M_roomOf 80 = .ok (.ireturn, 1) := by decide +kernel
theorem dM_peel_0 : decode b_M_peel 0 = .ok (.aload_n 0, 1) := by decide +kernel
theorem dM_peel_1 : decode b_M_peel 1 = .ok (.iload_n 1, 1) := by decide +kernel
theorem dM_peel_2 : decode b_M_peel 2 = .ok (.iconst 1, 1) := by decide +kernel
theorem dM_peel_3 : decode b_M_peel 3 = .ok (.sipush 1000, 3) := by decide +kernel
theorem dM_peel_6 : decode b_M_peel 6 = .ok (.invokestatic 73, 3) := by decide +kernel
theorem dM_peel_9 : decode b_M_peel 9 = .ok (.ifCond .eq 18, 3) := by decide +kernel
theorem dM_peel_12 : decode b_M_peel 12 = .ok (.iload_n 2, 1) := by decide +kernel
theorem dM_peel_13 : decode b_M_peel 13 = .ok (.iconst 0, 1) := by decide +kernel
theorem dM_peel_14 : decode b_M_peel 14 = .ok (.sipush 1000, 3) := by decide +kernel
theorem dM_peel_17 : decode b_M_peel 17 = .ok (.invokestatic 73, 3) := by decide +kernel
theorem dM_peel_20 : decode b_M_peel 20 = .ok (.ifCond .eq 7, 3) := by decide +kernel
theorem dM_peel_23 : decode b_M_peel 23 = .ok (.iconst 0, 1) := by decide +kernel
theorem dM_peel_24 : decode b_M_peel 24 = .ok (.goto 4, 3) := by decide +kernel
theorem dM_peel_27 : decode b_M_peel 27 = .ok (.iconst 1, 1) := by decide +kernel
theorem dM_peel_28 : decode b_M_peel 28 = .ok (.putfield 70, 3) := by decide +kernel
theorem dM_peel_31 : decode b_M_peel 31 = .ok (.aload_n 0, 1) := by decide +kernel
theorem dM_peel_32 : decode b_M_peel 32 = .ok (.getfield 70, 3) := by decide +kernel
theorem dM_peel_35 : decode b_M_peel 35 = .ok (.ifCond .le 5, 3) := by decide +kernel
theorem dM_peel_38 : decode b_M_peel 38 = .ok (.iconst 0, 1) := by decide +kernel
theorem dM_peel_39 : decode b_M_peel 39 = .ok (.ireturn, 1) := by decide +kernel
theorem dM_peel_40 : decode b_M_peel 40 = .ok (.aload_n 0, 1) := by decide +kernel
theorem dM_peel_41 : decode b_M_peel 41 = .ok (.aload_n 0, 1) := by decide +kernel
theorem dM_peel_42 : decode b_M_peel 42 = .ok (.invokevirtual 109, 3) := by decide +kernel
theorem dM_peel_45 : decode b_M_peel 45 = .ok (.putfield 113, 3) := by decide +kernel
theorem dM_peel_48 : decode b_M_peel 48 = .ok (.aload_n 0, 1) := by decide +kernel
theorem dM_peel_49 : decode b_M_peel 49 = .ok (.iload_n 1, 1) := by decide +kernel
theorem dM_peel_50 : decode b_M_peel 50 = .ok (.putfield 115, 3) := by decide +kernel
theorem dM_peel_53 : decode b_M_peel 53 = .ok (.aload_n 0, 1) := by decide +kernel
theorem dM_peel_54 : decode b_M_peel 54 = .ok (.aload_n 0, 1) := by decide +kernel
theorem dM_peel_55 : decode b_M_peel 55 = .ok (.getfield 113, 3) := by decide +kernel
theorem dM_peel_58 : decode b_M_peel 58 = .ok (.iload_n 2, 1) := by decide +kernel
theorem dM_peel_59 : decode b_M_peel 59 = .ok (.if_icmp .ge 7, 3) := by decide +kernel
theorem dM_peel_62 : decode b_M_peel 62 = .ok (.iconst 0, 1) := by decide +kernel
theorem dM_peel_63 : decode b_M_peel 63 = .ok (.goto 14, 3) := by decide +kernel
theorem dM_peel_66 : decode b_M_peel 66 = .ok (.aload_n 0, 1) := by decide +kernel
theorem dM_peel_67 : decode b_M_peel 67 = .ok (.getfield 113, 3) := by decide +kernel
theorem dM_peel_70 : decode b_M_peel 70 = .ok (.iload_n 2, 1) := by decide +kernel
theorem dM_peel_71 : decode b_M_peel 71 = .ok (.isub, 1) := by decide +kernel
theorem dM_peel_72 : decode b_M_peel 72 = .ok (.aload_n 0, 1) := by decide +kernel
theorem dM_peel_73 : decode b_M_peel 73 = .ok (.getfield 115, 3) := by decide +kernel
theorem dM_peel_76 : decode b_M_peel 76 = .ok (.idiv, 1) := by decide +kernel
theorem dM_peel_77 : decode b_M_peel 77 = .ok (.putfield 118, 3) := by decide +kernel
theorem dM_peel_80 : decode b_M_peel 80 = .ok (.aload_n 0, 1) := by decide +kernel
theorem dM_peel_81 : decode b_M_peel 81 = .ok (.iconst 1, 1) := by decide +kernel
theorem dM_peel_82 : decode b_M_peel 82 = .ok (.putfield 81, 3) := by decide +kernel
theorem dM_peel_85 : decode b_M_peel 85 = .ok (.aload_n 0, 1) := by decide +kernel
theorem dM_peel_86 : decode b_M_peel 86 = .ok (.iconst 0, 1) := by decide +kernel
theorem dM_peel_87 : decode b_M_peel 87 = .ok (.putfield 84, 3) := by decide +kernel
theorem dM_peel_90 : decode b_M_peel 90 = .ok (.aload_n 0, 1) := by decide +kernel
theorem dM_peel_91 : decode b_M_peel 91 = .ok (.getfield 118, 3) := by decide +kernel
theorem dM_peel_94 : decode b_M_peel 94 = .ok (.ireturn, 1) := by decide +kernel
theorem dM_beforeTurn_0 : decode b_M_beforeTurn 0 = .ok (.iconst 0, 1) := by decide +kernel
theorem dM_beforeTurn_1 : decode b_M_beforeTurn 1 = .ok (.istore_n 2, 1) := by decide +kernel
theorem dM_beforeTurn_2 : decode b_M_beforeTurn 2 = .ok (.iconst 0, 1) := by decide +kernel
theorem dM_beforeTurn_3 : decode b_M_beforeTurn 3 = .ok (.istore_n 3, 1) := by decide +kernel
theorem dM_beforeTurn_4 : decode b_M_beforeTurn 4 = .ok (.iload_n 3, 1) := by decide +kernel
theorem dM_beforeTurn_5 : decode b_M_beforeTurn 5 = .ok (.iload_n 1, 1) := by decide +kernel
theorem dM_beforeTurn_6 : decode b_M_beforeTurn 6 = .ok (.if_icmp .ge 23, 3) := by decide +kernel
theorem dM_beforeTurn_9 : decode b_M_beforeTurn 9 = .ok (.iload_n 2, 1) := by decide +kernel
theorem dM_beforeTurn_10 : decode b_M_beforeTurn 10 = .ok (.aload_n 0, 1) := by decide +kernel
theorem dM_beforeTurn_11 : decode b_M_beforeTurn 11 = .ok (.getfield 113, 3) := by decide +kernel
theorem dM_beforeTurn_14 : decode b_M_beforeTurn 14 = .ok (.iadd, 1) := by decide +kernel
theorem dM_beforeTurn_15 : decode b_M_beforeTurn 15 = .ok (.iload_n 3, 1) := by decide +kernel
theorem dM_beforeTurn_16 : decode b_M_beforeTurn 16 = .ok (.aload_n 0, 1) := by decide +kernel
theorem dM_beforeTurn_17 : decode b_M_beforeTurn 17 = .ok (.getfield 115, 3) := by decide +kernel
theorem dM_beforeTurn_20 : decode b_M_beforeTurn 20 = .ok (.imul, 1) := by decide +kernel
theorem dM_beforeTurn_21 : decode b_M_beforeTurn 21 = .ok (.isub, 1) := by decide +kernel
theorem dM_beforeTurn_22 : decode b_M_beforeTurn 22 = .ok (.istore_n 2, 1) := by decide +kernel
theorem dM_beforeTurn_23 : decode b_M_beforeTurn 23 = .ok (.iinc 3 1, 3) := by decide +kernel
theorem dM_beforeTurn_26 : decode b_M_beforeTurn 26 = .ok (.goto (-22), 3) := by decide +kernel
theorem dM_beforeTurn_29 : decode b_M_beforeTurn 29 = .ok (.iload_n 2, 1) := by decide +kernel
theorem dM_beforeTurn_30 : decode b_M_beforeTurn 30 = .ok (.sipush 710, 3) := by decide +kernel
theorem dM_beforeTurn_33 : decode b_M_beforeTurn 33 = .ok (.imul, 1) := by decide +kernel
theorem dM_beforeTurn_34 : decode b_M_beforeTurn 34 = .ok (.bipush 113, 2) := by decide +kernel
theorem dM_beforeTurn_36 : decode b_M_beforeTurn 36 = .ok (.idiv, 1) := by decide +kernel
theorem dM_beforeTurn_37 : decode b_M_beforeTurn 37 = .ok (.ireturn, 1) := by decide +kernel
theorem dM_before_0 : decode b_M_before 0 = .ok (.aload_n 0, 1) := by decide +kernel
theorem dM_before_1 : decode b_M_before 1 = .ok (.aload_n 0, 1) := by decide +kernel
theorem dM_before_2 : decode b_M_before 2 = .ok (.getfield 81, 3) := by decide +kernel
theorem dM_before_5 : decode b_M_before 5 = .ok (.ifCond .ne 7, 3) := by decide +kernel
theorem dM_before_8 : decode b_M_before 8 = .ok (.iconst 1, 1) := by decide +kernel
theorem dM_before_9 : decode b_M_before 9 = .ok (.goto 20, 3) := by decide +kernel
theorem dM_before_12 : decode b_M_before 12 = .ok (.iload_n 1, 1) := by decide +kernel
theorem dM_before_13 : decode b_M_before 13 = .ok (.iconst 0, 1) := by decide +kernel
theorem dM_before_14 : decode b_M_before 14 = .ok (.aload_n 0, 1) := by decide +kernel
theorem dM_before_15 : decode b_M_before 15 = .ok (.getfield 118, 3) := by decide +kernel
theorem dM_before_18 : decode b_M_before 18 = .ok (.invokestatic 73, 3) := by decide +kernel
theorem dM_before_21 : decode b_M_before 21 = .ok (.ifCond .eq 7, 3) := by decide +kernel
theorem dM_before_24 : decode b_M_before 24 = .ok (.iconst 0, 1) := by decide +kernel
theorem dM_before_25 : decode b_M_before 25 = .ok (.goto 4, 3) := by decide +kernel
theorem dM_before_28 : decode b_M_before 28 = .ok (.iconst 2, 1) := by decide +kernel
theorem dM_before_29 : decode b_M_before 29 = .ok (.putfield 70, 3) := by decide +kernel
theorem dM_before_32 : decode b_M_before 32 = .ok (.aload_n 0, 1) := by decide +kernel
theorem dM_before_33 : decode b_M_before 33 = .ok (.getfield 70, 3) := by decide +kernel
theorem dM_before_36 : decode b_M_before 36 = .ok (.ifCond .le 7, 3) := by decide +kernel
theorem dM_before_39 : decode b_M_before 39 = .ok (.iconst 0, 1) := by decide +kernel
theorem dM_before_40 : decode b_M_before 40 = .ok (.goto 8, 3) := by decide +kernel
theorem dM_before_43 : decode b_M_before 43 = .ok (.aload_n 0, 1) := by decide +kernel
theorem dM_before_44 : decode b_M_before 44 = .ok (.iload_n 1, 1) := by decide +kernel
theorem dM_before_45 : decode b_M_before 45 = .ok (.invokevirtual 121, 3) := by decide +kernel
theorem dM_before_48 : decode b_M_before 48 = .ok (.ireturn, 1) := by decide +kernel
theorem dM_fault_0 : decode b_M_fault 0 = .ok (.aload_n 0, 1) := by decide +kernel
theorem dM_fault_1 : decode b_M_fault 1 = .ok (.iload_n 1, 1) := by decide +kernel
theorem dM_fault_2 : decode b_M_fault 2 = .ok (.iconst 0, 1) := by decide +kernel
theorem dM_fault_3 : decode b_M_fault 3 = .ok (.sipush 359, 3) := by decide +kernel
theorem dM_fault_6 : decode b_M_fault 6 = .ok (.invokestatic 73, 3) := by decide +kernel
theorem dM_fault_9 : decode b_M_fault 9 = .ok (.ifCond .eq 23, 3) := by decide +kernel
theorem dM_fault_12 : decode b_M_fault 12 = .ok (.iload_n 2, 1) := by decide +kernel
theorem dM_fault_13 : decode b_M_fault 13 = .ok (.iconst 0, 1) := by decide +kernel
theorem dM_fault_14 : decode b_M_fault 14 = .ok (.sipush 1000, 3) := by decide +kernel
theorem dM_fault_17 : decode b_M_fault 17 = .ok (.invokestatic 73, 3) := by decide +kernel
theorem dM_fault_20 : decode b_M_fault 20 = .ok (.ifCond .eq 12, 3) := by decide +kernel
theorem dM_fault_23 : decode b_M_fault 23 = .ok (.iload_n 3, 1) := by decide +kernel
theorem dM_fault_24 : decode b_M_fault 24 = .ok (.iconst 0, 1) := by decide +kernel
theorem dM_fault_25 : decode b_M_fault 25 = .ok (.iconst 3, 1) := by decide +kernel
theorem dM_fault_26 : decode b_M_fault 26 = .ok (.invokestatic 73, 3) := by decide +kernel
theorem dM_fault_29 : decode b_M_fault 29 = .ok (.ifCond .ne 7, 3) := by decide +kernel
theorem dM_fault_32 : decode b_M_fault 32 = .ok (.iconst 1, 1) := by decide +kernel
theorem dM_fault_33 : decode b_M_fault 33 = .ok (.goto 17, 3) := by decide +kernel
theorem dM_fault_36 : decode b_M_fault 36 = .ok (.aload_n 0, 1) := by decide +kernel
theorem dM_fault_37 : decode b_M_fault 37 = .ok (.getfield 125, 3) := by decide +kernel
theorem dM_fault_40 : decode b_M_fault 40 = .ok (.bipush 16, 2) := by decide +kernel
theorem dM_fault_42 : decode b_M_fault 42 = .ok (.if_icmp .ne 7, 3) := by decide +kernel
theorem dM_fault_45 : decode b_M_fault 45 = .ok (.iconst 2, 1) := by decide +kernel
theorem dM_fault_46 : decode b_M_fault 46 = .ok (.goto 4, 3) := by decide +kernel
theorem dM_fault_49 : decode b_M_fault 49 = .ok (.iconst 0, 1) := by decide +kernel
theorem dM_fault_50 : decode b_M_fault 50 = .ok (.putfield 70, 3) := by decide +kernel
theorem dM_fault_53 : decode b_M_fault 53 = .ok (.aload_n 0, 1) := by decide +kernel
theorem dM_fault_54 : decode b_M_fault 54 = .ok (.getfield 70, 3) := by decide +kernel
theorem dM_fault_57 : decode b_M_fault 57 = .ok (.ifCond .le 5, 3) := by decide +kernel
theorem dM_fault_60 : decode b_M_fault 60 = .ok (.iconst 0, 1) := by decide +kernel
theorem dM_fault_61 : decode b_M_fault 61 = .ok (.ireturn, 1) := by decide +kernel
theorem dM_fault_62 : decode b_M_fault 62 = .ok (.aload_n 0, 1) := by decide +kernel
theorem dM_fault_63 : decode b_M_fault 63 = .ok (.getfield 20, 3) := by decide +kernel
theorem dM_fault_66 : decode b_M_fault 66 = .ok (.aload_n 0, 1) := by decide +kernel
theorem dM_fault_67 : decode b_M_fault 67 = .ok (.getfield 125, 3) := by decide +kernel
theorem dM_fault_70 : decode b_M_fault 70 = .ok (.iload_n 1, 1) := by decide +kernel
theorem dM_fault_71 : decode b_M_fault 71 = .ok (.iastore, 1) := by decide +kernel
theorem dM_fault_72 : decode b_M_fault 72 = .ok (.aload_n 0, 1) := by decide +kernel
theorem dM_fault_73 : decode b_M_fault 73 = .ok (.getfield 23, 3) := by decide +kernel
theorem dM_fault_76 : decode b_M_fault 76 = .ok (.aload_n 0, 1) := by decide +kernel
theorem dM_fault_77 : decode b_M_fault 77 = .ok (.getfield 125, 3) := by decide +kernel
theorem dM_fault_80 : decode b_M_fault 80 = .ok (.iload_n 2, 1) := by decide +kernel
theorem dM_fault_81 : decode b_M_fault 81 = .ok (.iastore, 1) := by decide +kernel
theorem dM_fault_82 : decode b_M_fault 82 = .ok (.aload_n 0, 1) := by decide +kernel
theorem dM_fault_83 : decode b_M_fault 83 = .ok (.getfield 26, 3) := by decide +kernel
theorem dM_fault_86 : decode b_M_fault 86 = .ok (.aload_n 0, 1) := by decide +kernel
theorem dM_fault_87 : decode b_M_fault 87 = .ok (.getfield 125, 3) := by decide +kernel
theorem dM_fault_90 : decode b_M_fault 90 = .ok (.iload_n 3, 1) := by decide +kernel
theorem dM_fault_91 : decode b_M_fault 91 = .ok (.iastore, 1) := by decide +kernel
theorem dM_fault_92 : decode b_M_fault 92 = .ok (.aload_n 0, 1) := by decide +kernel
theorem dM_fault_93 : decode b_M_fault 93 = .ok (.dup, 1) := by decide +kernel
theorem dM_fault_94 : decode b_M_fault 94 = .ok (.getfield 125, 3) := by decide +kernel
theorem dM_fault_97 : decode b_M_fault 97 = .ok (.iconst 1, 1) := by decide +kernel
theorem dM_fault_98 : decode b_M_fault 98 = .ok (.iadd, 1) := by decide +kernel
theorem dM_fault_99 : decode b_M_fault 99 = .ok (.putfield 125, 3) := by decide +kernel
theorem dM_fault_102 : decode b_M_fault 102 = .ok (.aload_n 0, 1) := by decide +kernel
theorem dM_fault_103 : decode b_M_fault 103 = .ok (.iconst 0, 1) := by decide +kernel
theorem dM_fault_104 : decode b_M_fault 104 = .ok (.putfield 84, 3) := by decide +kernel
theorem dM_fault_107 : decode b_M_fault 107 = .ok (.aload_n 0, 1) := by decide +kernel
theorem dM_fault_108 : decode b_M_fault 108 = .ok (.getfield 125, 3) := by decide +kernel
theorem dM_fault_111 : decode b_M_fault 111 = .ok (.iconst 1, 1) := by decide +kernel
theorem dM_fault_112 : decode b_M_fault 112 = .ok (.isub, 1) := by decide +kernel
theorem dM_fault_113 : decode b_M_fault 113 = .ok (.ireturn, 1) := by decide +kernel
theorem dM_placeOf_0 : decode b_M_placeOf 0 = .ok (.aload_n 0, 1) := by decide +kernel
theorem dM_placeOf_1 : decode b_M_placeOf 1 = .ok (.getfield 23, 3) := by decide +kernel
theorem dM_placeOf_4 : decode b_M_placeOf 4 = .ok (.iload_n 1, 1) := by decide +kernel
theorem dM_placeOf_5 : decode b_M_placeOf 5 = .ok (.iaload, 1) := by decide +kernel
theorem dM_placeOf_6 : decode b_M_placeOf 6 = .ok (.aload_n 0, 1) := by decide +kernel
theorem dM_placeOf_7 : decode b_M_placeOf 7 = .ok (.getfield 113, 3) := by decide +kernel
theorem dM_placeOf_10 : decode b_M_placeOf 10 = .ok (.if_icmp .gt 26, 3) := by decide +kernel
theorem dM_placeOf_13 : decode b_M_placeOf 13 = .ok (.aload_n 0, 1) := by decide +kernel
theorem dM_placeOf_14 : decode b_M_placeOf 14 = .ok (.getfield 23, 3) := by decide +kernel
theorem dM_placeOf_17 : decode b_M_placeOf 17 = .ok (.iload_n 1, 1) := by decide +kernel
theorem dM_placeOf_18 : decode b_M_placeOf 18 = .ok (.iaload, 1) := by decide +kernel
theorem dM_placeOf_19 : decode b_M_placeOf 19 = .ok (.aload_n 0, 1) := by decide +kernel
theorem dM_placeOf_20 : decode b_M_placeOf 20 = .ok (.getfield 113, 3) := by decide +kernel
theorem dM_placeOf_23 : decode b_M_placeOf 23 = .ok (.aload_n 0, 1) := by decide +kernel
theorem dM_placeOf_24 : decode b_M_placeOf 24 = .ok (.getfield 118, 3) := by decide +kernel
theorem dM_placeOf_27 : decode b_M_placeOf 27 = .ok (.aload_n 0, 1) := by decide +kernel
theorem dM_placeOf_28 : decode b_M_placeOf 28 = .ok (.getfield 115, 3) := by decide +kernel
theorem dM_placeOf_31 : decode b_M_placeOf 31 = .ok (.imul, 1) := by decide +kernel
theorem dM_placeOf_32 : decode b_M_placeOf 32 = .ok (.isub, 1) := by decide +kernel
theorem dM_placeOf_33 : decode b_M_placeOf 33 = .ok (.if_icmp .gt 5, 3) := by decide +kernel
theorem dM_placeOf_36 : decode b_M_placeOf 36 = .ok (.iconst (-1), 1) := by decide +kernel
theorem dM_placeOf_37 : decode b_M_placeOf 37 = .ok (.ireturn, 1) := by decide +kernel
theorem dM_placeOf_38 : decode b_M_placeOf 38 = .ok (.aload_n 0, 1) := by decide +kernel
theorem dM_placeOf_39 : decode b_M_placeOf 39 = .ok (.getfield 113, 3) := by decide +kernel
theorem dM_placeOf_42 : decode b_M_placeOf 42 = .ok (.aload_n 0, 1) := by decide +kernel
theorem dM_placeOf_43 : decode b_M_placeOf 43 = .ok (.getfield 23, 3) := by decide +kernel
theorem dM_placeOf_46 : decode b_M_placeOf 46 = .ok (.iload_n 1, 1) := by decide +kernel
theorem dM_placeOf_47 : decode b_M_placeOf 47 = .ok (.iaload, 1) := by decide +kernel
theorem dM_placeOf_48 : decode b_M_placeOf 48 = .ok (.isub, 1) := by decide +kernel
theorem dM_placeOf_49 : decode b_M_placeOf 49 = .ok (.aload_n 0, 1) := by decide +kernel
theorem dM_placeOf_50 : decode b_M_placeOf 50 = .ok (.getfield 115, 3) := by decide +kernel
theorem dM_placeOf_53 : decode b_M_placeOf 53 = .ok (.idiv, 1) := by decide +kernel
theorem dM_placeOf_54 : decode b_M_placeOf 54 = .ok (.istore_n 2, 1) := by decide +kernel
theorem dM_placeOf_55 : decode b_M_placeOf 55 = .ok (.aload_n 0, 1) := by decide +kernel
theorem dM_placeOf_56 : decode b_M_placeOf 56 = .ok (.iload_n 2, 1) := by decide +kernel
theorem dM_placeOf_57 : decode b_M_placeOf 57 = .ok (.invokevirtual 121, 3) := by decide +kernel
theorem dM_placeOf_60 : decode b_M_placeOf 60 = .ok (.aload_n 0, 1) := by decide +kernel
theorem dM_placeOf_61 : decode b_M_placeOf 61 = .ok (.getfield 113, 3) := by decide +kernel
theorem dM_placeOf_64 : decode b_M_placeOf 64 = .ok (.iload_n 2, 1) := by decide +kernel
theorem dM_placeOf_65 : decode b_M_placeOf 65 = .ok (.aload_n 0, 1) := by decide +kernel
theorem dM_placeOf_66 : decode b_M_placeOf 66 = .ok (.getfield 115, 3) := by decide +kernel
theorem dM_placeOf_69 : decode b_M_placeOf 69 = .ok (.imul, 1) := by decide +kernel
theorem dM_placeOf_70 : decode b_M_placeOf 70 = .ok (.isub, 1) := by decide +kernel
theorem dM_placeOf_71 : decode b_M_placeOf 71 = .ok (.sipush 710, 3) := by decide +kernel
theorem dM_placeOf_74 : decode b_M_placeOf 74 = .ok (.imul, 1) := by decide +kernel
theorem dM_placeOf_75 : decode b_M_placeOf 75 = .ok (.bipush 113, 2) := by decide +kernel
theorem dM_placeOf_77 : decode b_M_placeOf 77 = .ok (.idiv, 1) := by decide +kernel
theorem dM_placeOf_78 : decode b_M_placeOf 78 = .ok (.aload_n 0, 1) := by decide +kernel
theorem dM_placeOf_79 : decode b_M_placeOf 79 = .ok (.getfield 20, 3) := by decide +kernel
theorem dM_placeOf_82 : decode b_M_placeOf 82 = .ok (.iload_n 1, 1) := by decide +kernel
theorem dM_placeOf_83 : decode b_M_placeOf 83 = .ok (.iaload, 1) := by decide +kernel
theorem dM_placeOf_84 : decode b_M_placeOf 84 = .ok (.imul, 1) := by decide +kernel
theorem dM_placeOf_85 : decode b_M_placeOf 85 = .ok (.sipush 360, 3) := by decide +kernel
theorem dM_placeOf_88 : decode b_M_placeOf 88 = .ok (.idiv, 1) := by decide +kernel
theorem dM_placeOf_89 : decode b_M_placeOf 89 = .ok (.iadd, 1) := by decide +kernel
theorem dM_placeOf_90 : decode b_M_placeOf 90 = .ok (.ireturn, 1) := by decide +kernel
theorem dM_unrolled_0 : decode b_M_unrolled 0 = .ok (.aload_n 0, 1) := by decide +kernel
theorem dM_unrolled_1 : decode b_M_unrolled 1 = .ok (.iload_n 1, 1) := by decide +kernel
theorem dM_unrolled_2 : decode b_M_unrolled 2 = .ok (.iconst 0, 1) := by decide +kernel
theorem dM_unrolled_3 : decode b_M_unrolled 3 = .ok (.aload_n 0, 1) := by decide +kernel
theorem dM_unrolled_4 : decode b_M_unrolled 4 = .ok (.getfield 125, 3) := by decide +kernel
theorem dM_unrolled_7 : decode b_M_unrolled 7 = .ok (.iconst 1, 1) := by decide +kernel
theorem dM_unrolled_8 : decode b_M_unrolled 8 = .ok (.isub, 1) := by decide +kernel
theorem dM_unrolled_9 : decode b_M_unrolled 9 = .ok (.invokestatic 73, 3) := by decide +kernel
theorem dM_unrolled_12 : decode b_M_unrolled 12 = .ok (.ifCond .ne 7, 3) := by decide +kernel
theorem dM_unrolled_15 : decode b_M_unrolled 15 = .ok (.iconst 1, 1) := by decide +kernel
theorem dM_unrolled_16 : decode b_M_unrolled 16 = .ok (.goto 15, 3) := by decide +kernel
theorem dM_unrolled_19 : decode b_M_unrolled 19 = .ok (.aload_n 0, 1) := by decide +kernel
theorem dM_unrolled_20 : decode b_M_unrolled 20 = .ok (.getfield 81, 3) := by decide +kernel
theorem dM_unrolled_23 : decode b_M_unrolled 23 = .ok (.ifCond .eq 7, 3) := by decide +kernel
theorem dM_unrolled_26 : decode b_M_unrolled 26 = .ok (.iconst 0, 1) := by decide +kernel
theorem dM_unrolled_27 : decode b_M_unrolled 27 = .ok (.goto 4, 3) := by decide +kernel
theorem dM_unrolled_30 : decode b_M_unrolled 30 = .ok (.iconst 2, 1) := by decide +kernel
theorem dM_unrolled_31 : decode b_M_unrolled 31 = .ok (.putfield 70, 3) := by decide +kernel
theorem dM_unrolled_34 : decode b_M_unrolled 34 = .ok (.aload_n 0, 1) := by decide +kernel
theorem dM_unrolled_35 : decode b_M_unrolled 35 = .ok (.getfield 70, 3) := by decide +kernel
theorem dM_unrolled_38 : decode b_M_unrolled 38 = .ok (.ifCond .le 7, 3) := by decide +kernel
theorem dM_unrolled_41 : decode b_M_unrolled 41 = .ok (.iconst 0, 1) := by decide +kernel
theorem dM_unrolled_42 : decode b_M_unrolled 42 = .ok (.goto 8, 3) := by decide +kernel
theorem dM_unrolled_45 : decode b_M_unrolled 45 = .ok (.aload_n 0, 1) := by decide +kernel
theorem dM_unrolled_46 : decode b_M_unrolled 46 = .ok (.iload_n 1, 1) := by decide +kernel
theorem dM_unrolled_47 : decode b_M_unrolled 47 = .ok (.invokevirtual 128, 3) := by decide +kernel
theorem dM_unrolled_50 : decode b_M_unrolled 50 = .ok (.ireturn, 1) := by decide +kernel
theorem dM_leaf_0 : decode b_M_leaf 0 = .ok (.aload_n 0, 1) := by decide +kernel
theorem dM_leaf_1 : decode b_M_leaf 1 = .ok (.iload_n 1, 1) := by decide +kernel
theorem dM_leaf_2 : decode b_M_leaf 2 = .ok (.iconst 1, 1) := by decide +kernel
theorem dM_leaf_3 : decode b_M_leaf 3 = .ok (.sipush 500, 3) := by decide +kernel
theorem dM_leaf_6 : decode b_M_leaf 6 = .ok (.invokestatic 73, 3) := by decide +kernel
theorem dM_leaf_9 : decode b_M_leaf 9 = .ok (.ifCond .eq 13, 3) := by decide +kernel
theorem dM_leaf_12 : decode b_M_leaf 12 = .ok (.iload_n 2, 1) := by decide +kernel
theorem dM_leaf_13 : decode b_M_leaf 13 = .ok (.iconst 0, 1) := by decide +kernel
theorem dM_leaf_14 : decode b_M_leaf 14 = .ok (.ldc 95, 2) := by decide +kernel
theorem dM_leaf_16 : decode b_M_leaf 16 = .ok (.invokestatic 73, 3) := by decide +kernel
theorem dM_leaf_19 : decode b_M_leaf 19 = .ok (.ifCond .ne 7, 3) := by decide +kernel
theorem dM_leaf_22 : decode b_M_leaf 22 = .ok (.iconst 1, 1) := by decide +kernel
theorem dM_leaf_23 : decode b_M_leaf 23 = .ok (.goto 17, 3) := by decide +kernel
theorem dM_leaf_26 : decode b_M_leaf 26 = .ok (.aload_n 0, 1) := by decide +kernel
theorem dM_leaf_27 : decode b_M_leaf 27 = .ok (.getfield 131, 3) := by decide +kernel
theorem dM_leaf_30 : decode b_M_leaf 30 = .ok (.bipush 6, 2) := by decide +kernel
theorem dM_leaf_32 : decode b_M_leaf 32 = .ok (.if_icmp .ne 7, 3) := by decide +kernel
theorem dM_leaf_35 : decode b_M_leaf 35 = .ok (.iconst 2, 1) := by decide +kernel
theorem dM_leaf_36 : decode b_M_leaf 36 = .ok (.goto 4, 3) := by decide +kernel
theorem dM_leaf_39 : decode b_M_leaf 39 = .ok (.iconst 0, 1) := by decide +kernel
theorem dM_leaf_40 : decode b_M_leaf 40 = .ok (.putfield 70, 3) := by decide +kernel
theorem dM_leaf_43 : decode b_M_leaf 43 = .ok (.aload_n 0, 1) := by decide +kernel
theorem dM_leaf_44 : decode b_M_leaf 44 = .ok (.getfield 70, 3) := by decide +kernel
theorem dM_leaf_47 : decode b_M_leaf 47 = .ok (.ifCond .le 5, 3) := by decide +kernel
theorem dM_leaf_50 : decode b_M_leaf 50 = .ok (.iconst 0, 1) := by decide +kernel
theorem dM_leaf_51 : decode b_M_leaf 51 = .ok (.ireturn, 1) := by decide +kernel
theorem dM_leaf_52 : decode b_M_leaf 52 = .ok (.aload_n 0, 1) := by decide +kernel
theorem dM_leaf_53 : decode b_M_leaf 53 = .ok (.getfield 29, 3) := by decide +kernel
theorem dM_leaf_56 : decode b_M_leaf 56 = .ok (.aload_n 0, 1) := by decide +kernel
theorem dM_leaf_57 : decode b_M_leaf 57 = .ok (.getfield 131, 3) := by decide +kernel
theorem dM_leaf_60 : decode b_M_leaf 60 = .ok (.iload_n 1, 1) := by decide +kernel
theorem dM_leaf_61 : decode b_M_leaf 61 = .ok (.iastore, 1) := by decide +kernel
theorem dM_leaf_62 : decode b_M_leaf 62 = .ok (.aload_n 0, 1) := by decide +kernel
theorem dM_leaf_63 : decode b_M_leaf 63 = .ok (.getfield 32, 3) := by decide +kernel
theorem dM_leaf_66 : decode b_M_leaf 66 = .ok (.aload_n 0, 1) := by decide +kernel
theorem dM_leaf_67 : decode b_M_leaf 67 = .ok (.getfield 131, 3) := by decide +kernel
theorem dM_leaf_70 : decode b_M_leaf 70 = .ok (.iload_n 2, 1) := by decide +kernel
theorem dM_leaf_71 : decode b_M_leaf 71 = .ok (.iastore, 1) := by decide +kernel
theorem dM_leaf_72 : decode b_M_leaf 72 = .ok (.aload_n 0, 1) := by decide +kernel
theorem dM_leaf_73 : decode b_M_leaf 73 = .ok (.dup, 1) := by decide +kernel
theorem dM_leaf_74 : decode b_M_leaf 74 = .ok (.getfield 131, 3) := by decide +kernel
theorem dM_leaf_77 : decode b_M_leaf 77 = .ok (.iconst 1, 1) := by decide +kernel
theorem dM_leaf_78 : decode b_M_leaf 78 = .ok (.iadd, 1) := by decide +kernel
theorem dM_leaf_79 : decode b_M_leaf 79 = .ok (.putfield 131, 3) := by decide +kernel
theorem dM_leaf_82 : decode b_M_leaf 82 = .ok (.aload_n 0, 1) := by decide +kernel
theorem dM_leaf_83 : decode b_M_leaf 83 = .ok (.iconst 0, 1) := by decide +kernel
theorem dM_leaf_84 : decode b_M_leaf 84 = .ok (.putfield 84, 3) := by decide +kernel
theorem dM_leaf_87 : decode b_M_leaf 87 = .ok (.aload_n 0, 1) := by decide +kernel
theorem dM_leaf_88 : decode b_M_leaf 88 = .ok (.getfield 131, 3) := by decide +kernel
theorem dM_leaf_91 : decode b_M_leaf 91 = .ok (.iconst 1, 1) := by decide +kernel
theorem dM_leaf_92 : decode b_M_leaf 92 = .ok (.isub, 1) := by decide +kernel
theorem dM_leaf_93 : decode b_M_leaf 93 = .ok (.ireturn, 1) := by decide +kernel
theorem dM_bars_0 : decode b_M_bars 0 = .ok (.aload_n 0, 1) := by decide +kernel
theorem dM_bars_1 : decode b_M_bars 1 = .ok (.iload_n 1, 1) := by decide +kernel
theorem dM_bars_2 : decode b_M_bars 2 = .ok (.iconst 0, 1) := by decide +kernel
theorem dM_bars_3 : decode b_M_bars 3 = .ok (.aload_n 0, 1) := by decide +kernel
theorem dM_bars_4 : decode b_M_bars 4 = .ok (.getfield 131, 3) := by decide +kernel
theorem dM_bars_7 : decode b_M_bars 7 = .ok (.iconst 1, 1) := by decide +kernel
theorem dM_bars_8 : decode b_M_bars 8 = .ok (.isub, 1) := by decide +kernel
theorem dM_bars_9 : decode b_M_bars 9 = .ok (.invokestatic 73, 3) := by decide +kernel
theorem dM_bars_12 : decode b_M_bars 12 = .ok (.ifCond .eq 16, 3) := by decide +kernel
theorem dM_bars_15 : decode b_M_bars 15 = .ok (.iload_n 2, 1) := by decide +kernel
theorem dM_bars_16 : decode b_M_bars 16 = .ok (.iconst 0, 1) := by decide +kernel
theorem dM_bars_17 : decode b_M_bars 17 = .ok (.iconst 3, 1) := by decide +kernel
theorem dM_bars_18 : decode b_M_bars 18 = .ok (.invokestatic 73, 3) := by decide +kernel
theorem dM_bars_21 : decode b_M_bars 21 = .ok (.ifCond .eq 7, 3) := by decide +kernel
theorem dM_bars_24 : decode b_M_bars 24 = .ok (.iconst 0, 1) := by decide +kernel
theorem dM_bars_25 : decode b_M_bars 25 = .ok (.goto 4, 3) := by decide +kernel
theorem dM_bars_28 : decode b_M_bars 28 = .ok (.iconst 1, 1) := by decide +kernel
theorem dM_bars_29 : decode b_M_bars 29 = .ok (.putfield 70, 3) := by decide +kernel
theorem dM_bars_32 : decode b_M_bars 32 = .ok (.aload_n 0, 1) := by decide +kernel
theorem dM_bars_33 : decode b_M_bars 33 = .ok (.getfield 70, 3) := by decide +kernel
theorem dM_bars_36 : decode b_M_bars 36 = .ok (.ifCond .le 5, 3) := by decide +kernel
theorem dM_bars_39 : decode b_M_bars 39 = .ok (.iconst 0, 1) := by decide +kernel
theorem dM_bars_40 : decode b_M_bars 40 = .ok (.ireturn, 1) := by decide +kernel
theorem dM_bars_41 : decode b_M_bars 41 = .ok (.aload_n 0, 1) := by decide +kernel
theorem dM_bars_42 : decode b_M_bars 42 = .ok (.getfield 35, 3) := by decide +kernel
theorem dM_bars_45 : decode b_M_bars 45 = .ok (.iload_n 1, 1) := by decide +kernel
theorem dM_bars_46 : decode b_M_bars 46 = .ok (.iaload, 1) := by decide +kernel
theorem dM_bars_47 : decode b_M_bars 47 = .ok (.iload_n 2, 1) := by decide +kernel
theorem dM_bars_48 : decode b_M_bars 48 = .ok (.ishr, 1) := by decide +kernel
theorem dM_bars_49 : decode b_M_bars 49 = .ok (.iconst 1, 1) := by decide +kernel
theorem dM_bars_50 : decode b_M_bars 50 = .ok (.iand, 1) := by decide +kernel
theorem dM_bars_51 : decode b_M_bars 51 = .ok (.iconst 1, 1) := by decide +kernel
theorem dM_bars_52 : decode b_M_bars 52 = .ok (.if_icmp .ne 7, 3) := by decide +kernel
theorem dM_bars_55 : decode b_M_bars 55 = .ok (.iconst 1, 1) := by decide +kernel
theorem dM_bars_56 : decode b_M_bars 56 = .ok (.goto 4, 3) := by decide +kernel
theorem dM_bars_59 : decode b_M_bars 59 = .ok (.iconst 0, 1) := by decide +kernel
theorem dM_bars_60 : decode b_M_bars 60 = .ok (.iload_n 3, 1) := by decide +kernel
theorem dM_bars_61 : decode b_M_bars 61 = .ok (.if_icmp .eq 7, 3) := by decide +kernel
theorem dM_bars_64 : decode b_M_bars 64 = .ok (.iconst 1, 1) := by decide +kernel
theorem dM_bars_65 : decode b_M_bars 65 = .ok (.goto 4, 3) := by decide +kernel
theorem dM_bars_68 : decode b_M_bars 68 = .ok (.iconst 0, 1) := by decide +kernel
theorem dM_bars_69 : decode b_M_bars 69 = .ok (.istore 4, 2) := by decide +kernel
theorem dM_bars_71 : decode b_M_bars 71 = .ok (.aload_n 0, 1) := by decide +kernel
theorem dM_bars_72 : decode b_M_bars 72 = .ok (.getfield 35, 3) := by decide +kernel
theorem dM_bars_75 : decode b_M_bars 75 = .ok (.iload_n 1, 1) := by decide +kernel
theorem dM_bars_76 : decode b_M_bars 76 = .ok (.iload 4, 2) := by decide +kernel
theorem dM_bars_78 : decode b_M_bars 78 = .ok (.ifCond .eq 16, 3) := by decide +kernel
theorem dM_bars_81 : decode b_M_bars 81 = .ok (.aload_n 0, 1) := by decide +kernel
theorem dM_bars_82 : decode b_M_bars 82 = .ok (.getfield 35, 3) := by decide +kernel
theorem dM_bars_85 : decode b_M_bars 85 = .ok (.iload_n 1, 1) := by decide +kernel
theorem dM_bars_86 : decode b_M_bars 86 = .ok (.iaload, 1) := by decide +kernel
theorem dM_bars_87 : decode b_M_bars 87 = .ok (.iconst 1, 1) := by decide +kernel
theorem dM_bars_88 : decode b_M_bars 88 = .ok (.iload_n 2, 1) := by decide +kernel
theorem dM_bars_89 : decode b_M_bars 89 = .ok (.ishl, 1) := by decide +kernel
theorem dM_bars_90 : decode b_M_bars 90 = .ok (.ixor, 1) := by decide +kernel
theorem dM_bars_91 : decode b_M_bars 91 = .ok (.goto 9, 3) := by decide +kernel
theorem dM_bars_94 : decode b_M_bars 94 = .ok (.aload_n 0, 1) := by decide +kernel
theorem dM_bars_95 : decode b_M_bars 95 = .ok (.getfield 35, 3) := by decide +kernel
theorem dM_bars_98 : decode b_M_bars 98 = .ok (.iload_n 1, 1) := by decide +kernel
theorem dM_bars_99 : decode b_M_bars 99 = .ok (.iaload, 1) := by decide +kernel
theorem dM_bars_100 : decode b_M_bars 100 = .ok (.iastore, 1) := by decide +kernel
theorem dM_bars_101 : decode b_M_bars 101 = .ok (.aload_n 0, 1) := by decide +kernel
theorem dM_bars_102 : decode b_M_bars 102 = .ok (.aload_n 0, 1) := by decide +kernel
theorem dM_bars_103 : decode b_M_bars 103 = .ok (.getfield 84, 3) := by decide +kernel
theorem dM_bars_106 : decode b_M_bars 106 = .ok (.ifCond .eq 12, 3) := by decide +kernel
theorem dM_bars_109 : decode b_M_bars 109 = .ok (.iload 4, 2) := by decide +kernel
theorem dM_bars_111 : decode b_M_bars 111 = .ok (.ifCond .ne 7, 3) := by decide +kernel
theorem dM_bars_114 : decode b_M_bars 114 = .ok (.iconst 1, 1) := by decide +kernel
theorem dM_bars_115 : decode b_M_bars 115 = .ok (.goto 4, 3) := by decide +kernel
theorem dM_bars_118 : decode b_M_bars 118 = .ok (.iconst 0, 1) := by decide +kernel
theorem dM_bars_119 : decode b_M_bars 119 = .ok (.putfield 84, 3) := by decide +kernel
theorem dM_bars_122 : decode b_M_bars 122 = .ok (.iload 4, 2) := by decide +kernel
theorem dM_bars_124 : decode b_M_bars 124 = .ok (.ireturn, 1) := by decide +kernel
theorem dM_fits_0 : decode b_M_fits 0 = .ok (.iload_n 2, 1) := by decide +kernel
theorem dM_fits_1 : decode b_M_fits 1 = .ok (.aload_n 0, 1) := by decide +kernel
theorem dM_fits_2 : decode b_M_fits 2 = .ok (.getfield 29, 3) := by decide +kernel
theorem dM_fits_5 : decode b_M_fits 5 = .ok (.iload_n 1, 1) := by decide +kernel
theorem dM_fits_6 : decode b_M_fits 6 = .ok (.iaload, 1) := by decide +kernel
theorem dM_fits_7 : decode b_M_fits 7 = .ok (.iadd, 1) := by decide +kernel
theorem dM_fits_8 : decode b_M_fits 8 = .ok (.aload_n 0, 1) := by decide +kernel
theorem dM_fits_9 : decode b_M_fits 9 = .ok (.getfield 134, 3) := by decide +kernel
theorem dM_fits_12 : decode b_M_fits 12 = .ok (.if_icmp .gt 7, 3) := by decide +kernel
theorem dM_fits_15 : decode b_M_fits 15 = .ok (.iconst 1, 1) := by decide +kernel
theorem dM_fits_16 : decode b_M_fits 16 = .ok (.goto 4, 3) := by decide +kernel
theorem dM_fits_19 : decode b_M_fits 19 = .ok (.iconst 0, 1) := by decide +kernel
theorem dM_fits_20 : decode b_M_fits 20 = .ok (.istore_n 3, 1) := by decide +kernel
theorem dM_fits_21 : decode b_M_fits 21 = .ok (.iload_n 2, 1) := by decide +kernel
theorem dM_fits_22 : decode b_M_fits 22 = .ok (.istore 4, 2) := by decide +kernel
theorem dM_fits_24 : decode b_M_fits 24 = .ok (.iload_n 3, 1) := by decide +kernel
theorem dM_fits_25 : decode b_M_fits 25 = .ok (.ifCond .eq 45, 3) := by decide +kernel
theorem dM_fits_28 : decode b_M_fits 28 = .ok (.iload 4, 2) := by decide +kernel
theorem dM_fits_30 : decode b_M_fits 30 = .ok (.iload_n 2, 1) := by decide +kernel
theorem dM_fits_31 : decode b_M_fits 31 = .ok (.aload_n 0, 1) := by decide +kernel
theorem dM_fits_32 : decode b_M_fits 32 = .ok (.getfield 29, 3) := by decide +kernel
theorem dM_fits_35 : decode b_M_fits 35 = .ok (.iload_n 1, 1) := by decide +kernel
theorem dM_fits_36 : decode b_M_fits 36 = .ok (.iaload, 1) := by decide +kernel
theorem dM_fits_37 : decode b_M_fits 37 = .ok (.iadd, 1) := by decide +kernel
theorem dM_fits_38 : decode b_M_fits 38 = .ok (.if_icmp .ge 32, 3) := by decide +kernel
theorem dM_fits_41 : decode b_M_fits 41 = .ok (.aload_n 0, 1) := by decide +kernel
theorem dM_fits_42 : decode b_M_fits 42 = .ok (.getfield 38, 3) := by decide +kernel
theorem dM_fits_45 : decode b_M_fits 45 = .ok (.iload 4, 2) := by decide +kernel
theorem dM_fits_47 : decode b_M_fits 47 = .ok (.iaload, 1) := by decide +kernel
theorem dM_fits_48 : decode b_M_fits 48 = .ok (.aload_n 0, 1) := by decide +kernel
theorem dM_fits_49 : decode b_M_fits 49 = .ok (.getfield 35, 3) := by decide +kernel
theorem dM_fits_52 : decode b_M_fits 52 = .ok (.iload_n 1, 1) := by decide +kernel
theorem dM_fits_53 : decode b_M_fits 53 = .ok (.iaload, 1) := by decide +kernel
theorem dM_fits_54 : decode b_M_fits 54 = .ok (.iand, 1) := by decide +kernel
theorem dM_fits_55 : decode b_M_fits 55 = .ok (.ifCond .ne 7, 3) := by decide +kernel
theorem dM_fits_58 : decode b_M_fits 58 = .ok (.iconst 1, 1) := by decide +kernel
theorem dM_fits_59 : decode b_M_fits 59 = .ok (.goto 4, 3) := by decide +kernel
theorem dM_fits_62 : decode b_M_fits 62 = .ok (.iconst 0, 1) := by decide +kernel
theorem dM_fits_63 : decode b_M_fits 63 = .ok (.istore_n 3, 1) := by decide +kernel
theorem dM_fits_64 : decode b_M_fits 64 = .ok (.iinc 4 1, 3) := by decide +kernel
theorem dM_fits_67 : decode b_M_fits 67 = .ok (.goto (-43), 3) := by decide +kernel
theorem dM_fits_70 : decode b_M_fits 70 = .ok (.iload_n 3, 1) := by decide +kernel
theorem dM_fits_71 : decode b_M_fits 71 = .ok (.ireturn, 1) := by decide +kernel
theorem dM_side_0 : decode b_M_side 0 = .ok (.aload_n 0, 1) := by decide +kernel
theorem dM_side_1 : decode b_M_side 1 = .ok (.getfield 32, 3) := by decide +kernel
theorem dM_side_4 : decode b_M_side 4 = .ok (.iload_n 1, 1) := by decide +kernel
theorem dM_side_5 : decode b_M_side 5 = .ok (.iaload, 1) := by decide +kernel
theorem dM_side_6 : decode b_M_side 6 = .ok (.i2l, 1) := by decide +kernel
theorem dM_side_7 : decode b_M_side 7 = .ok (.aload_n 0, 1) := by decide +kernel
theorem dM_side_8 : decode b_M_side 8 = .ok (.getfield 41, 3) := by decide +kernel
theorem dM_side_11 : decode b_M_side 11 = .ok (.iload_n 2, 1) := by decide +kernel
theorem dM_side_12 : decode b_M_side 12 = .ok (.aload_n 0, 1) := by decide +kernel
theorem dM_side_13 : decode b_M_side 13 = .ok (.getfield 29, 3) := by decide +kernel
theorem dM_side_16 : decode b_M_side 16 = .ok (.iload_n 1, 1) := by decide +kernel
theorem dM_side_17 : decode b_M_side 17 = .ok (.iaload, 1) := by decide +kernel
theorem dM_side_18 : decode b_M_side 18 = .ok (.iadd, 1) := by decide +kernel
theorem dM_side_19 : decode b_M_side 19 = .ok (.laload, 1) := by decide +kernel
theorem dM_side_20 : decode b_M_side 20 = .ok (.ladd, 1) := by decide +kernel
theorem dM_side_21 : decode b_M_side 21 = .ok (.lstore_n 3, 1) := by decide +kernel
theorem dM_side_22 : decode b_M_side 22 = .ok (.aload_n 0, 1) := by decide +kernel
theorem dM_side_23 : decode b_M_side 23 = .ok (.getfield 45, 3) := by decide +kernel
theorem dM_side_26 : decode b_M_side 26 = .ok (.iload_n 2, 1) := by decide +kernel
theorem dM_side_27 : decode b_M_side 27 = .ok (.aload_n 0, 1) := by decide +kernel
theorem dM_side_28 : decode b_M_side 28 = .ok (.getfield 29, 3) := by decide +kernel
theorem dM_side_31 : decode b_M_side 31 = .ok (.iload_n 1, 1) := by decide +kernel
theorem dM_side_32 : decode b_M_side 32 = .ok (.iaload, 1) := by decide +kernel
theorem dM_side_33 : decode b_M_side 33 = .ok (.iadd, 1) := by decide +kernel
theorem dM_side_34 : decode b_M_side 34 = .ok (.iaload, 1) := by decide +kernel
theorem dM_side_35 : decode b_M_side 35 = .ok (.istore 5, 2) := by decide +kernel
theorem dM_side_37 : decode b_M_side 37 = .ok (.lload_n 3, 1) := by decide +kernel
theorem dM_side_38 : decode b_M_side 38 = .ok (.aload_n 0, 1) := by decide +kernel
theorem dM_side_39 : decode b_M_side 39 = .ok (.getfield 41, 3) := by decide +kernel
theorem dM_side_42 : decode b_M_side 42 = .ok (.iload_n 2, 1) := by decide +kernel
theorem dM_side_43 : decode b_M_side 43 = .ok (.laload, 1) := by decide +kernel
theorem dM_side_44 : decode b_M_side 44 = .ok (.lcmp, 1) := by decide +kernel
theorem dM_side_45 : decode b_M_side 45 = .ok (.ifCond .eq 22, 3) := by decide +kernel
theorem dM_side_48 : decode b_M_side 48 = .ok (.lload_n 3, 1) := by decide +kernel
theorem dM_side_49 : decode b_M_side 49 = .ok (.aload_n 0, 1) := by decide +kernel
theorem dM_side_50 : decode b_M_side 50 = .ok (.getfield 41, 3) := by decide +kernel
theorem dM_side_53 : decode b_M_side 53 = .ok (.iload_n 2, 1) := by decide +kernel
theorem dM_side_54 : decode b_M_side 54 = .ok (.laload, 1) := by decide +kernel
theorem dM_side_55 : decode b_M_side 55 = .ok (.lcmp, 1) := by decide +kernel
theorem dM_side_56 : decode b_M_side 56 = .ok (.ifCond .le 7, 3) := by decide +kernel
theorem dM_side_59 : decode b_M_side 59 = .ok (.iconst 1, 1) := by decide +kernel
theorem dM_side_60 : decode b_M_side 60 = .ok (.goto 38, 3) := by decide +kernel
theorem dM_side_63 : decode b_M_side 63 = .ok (.iconst (-1), 1) := by decide +kernel
theorem dM_side_64 : decode b_M_side 64 = .ok (.goto 34, 3) := by decide +kernel
theorem dM_side_67 : decode b_M_side 67 = .ok (.iload 5, 2) := by decide +kernel
theorem dM_side_69 : decode b_M_side 69 = .ok (.aload_n 0, 1) := by decide +kernel
theorem dM_side_70 : decode b_M_side 70 = .ok (.getfield 45, 3) := by decide +kernel
theorem dM_side_73 : decode b_M_side 73 = .ok (.iload_n 2, 1) := by decide +kernel
theorem dM_side_74 : decode b_M_side 74 = .ok (.iaload, 1) := by decide +kernel
theorem dM_side_75 : decode b_M_side 75 = .ok (.if_icmp .eq 22, 3) := by decide +kernel
theorem dM_side_78 : decode b_M_side 78 = .ok (.iload 5, 2) := by decide +kernel
theorem dM_side_80 : decode b_M_side 80 = .ok (.aload_n 0, 1) := by decide +kernel
theorem dM_side_81 : decode b_M_side 81 = .ok (.getfield 45, 3) := by decide +kernel
theorem dM_side_84 : decode b_M_side 84 = .ok (.iload_n 2, 1) := by decide +kernel
theorem dM_side_85 : decode b_M_side 85 = .ok (.iaload, 1) := by decide +kernel
theorem dM_side_86 : decode b_M_side 86 = .ok (.if_icmp .ge 7, 3) := by decide +kernel
theorem dM_side_89 : decode b_M_side 89 = .ok (.iconst 1, 1) := by decide +kernel
theorem dM_side_90 : decode b_M_side 90 = .ok (.goto 8, 3) := by decide +kernel
theorem dM_side_93 : decode b_M_side 93 = .ok (.iconst (-1), 1) := by decide +kernel
theorem dM_side_94 : decode b_M_side 94 = .ok (.goto 4, 3) := by decide +kernel
theorem dM_side_97 : decode b_M_side 97 = .ok (.iconst 0, 1) := by decide +kernel
theorem dM_side_98 : decode b_M_side 98 = .ok (.ireturn, 1) := by decide +kernel
theorem dM_clip_0 : decode b_M_clip 0 = .ok (.aload_n 0, 1) := by decide +kernel
theorem dM_clip_1 : decode b_M_clip 1 = .ok (.iload_n 1, 1) := by decide +kernel
theorem dM_clip_2 : decode b_M_clip 2 = .ok (.iconst 1, 1) := by decide +kernel
theorem dM_clip_3 : decode b_M_clip 3 = .ok (.sipush 1000, 3) := by decide +kernel
theorem dM_clip_6 : decode b_M_clip 6 = .ok (.invokestatic 73, 3) := by decide +kernel
theorem dM_clip_9 : decode b_M_clip 9 = .ok (.ifCond .ne 7, 3) := by decide +kernel
theorem dM_clip_12 : decode b_M_clip 12 = .ok (.iconst 1, 1) := by decide +kernel
theorem dM_clip_13 : decode b_M_clip 13 = .ok (.goto 15, 3) := by decide +kernel
theorem dM_clip_16 : decode b_M_clip 16 = .ok (.aload_n 0, 1) := by decide +kernel
theorem dM_clip_17 : decode b_M_clip 17 = .ok (.getfield 81, 3) := by decide +kernel
theorem dM_clip_20 : decode b_M_clip 20 = .ok (.ifCond .eq 7, 3) := by decide +kernel
theorem dM_clip_23 : decode b_M_clip 23 = .ok (.iconst 0, 1) := by decide +kernel
theorem dM_clip_24 : decode b_M_clip 24 = .ok (.goto 4, 3) := by decide +kernel
theorem dM_clip_27 : decode b_M_clip 27 = .ok (.iconst 2, 1) := by decide +kernel
theorem dM_clip_28 : decode b_M_clip 28 = .ok (.putfield 70, 3) := by decide +kernel
theorem dM_clip_31 : decode b_M_clip 31 = .ok (.aload_n 0, 1) := by decide +kernel
theorem dM_clip_32 : decode b_M_clip 32 = .ok (.getfield 70, 3) := by decide +kernel
theorem dM_clip_35 : decode b_M_clip 35 = .ok (.ifCond .le 5, 3) := by decide +kernel
theorem dM_clip_38 : decode b_M_clip 38 = .ok (.iconst 0, 1) := by decide +kernel
theorem dM_clip_39 : decode b_M_clip 39 = .ok (.ireturn, 1) := by decide +kernel
theorem dM_clip_40 : decode b_M_clip 40 = .ok (.aload_n 0, 1) := by decide +kernel
theorem dM_clip_41 : decode b_M_clip 41 = .ok (.aload_n 0, 1) := by decide +kernel
theorem dM_clip_42 : decode b_M_clip 42 = .ok (.aload_n 0, 1) := by decide +kernel
theorem dM_clip_43 : decode b_M_clip 43 = .ok (.getfield 118, 3) := by decide +kernel
theorem dM_clip_46 : decode b_M_clip 46 = .ok (.invokevirtual 121, 3) := by decide +kernel
theorem dM_clip_49 : decode b_M_clip 49 = .ok (.iload_n 1, 1) := by decide +kernel
theorem dM_clip_50 : decode b_M_clip 50 = .ok (.idiv, 1) := by decide +kernel
theorem dM_clip_51 : decode b_M_clip 51 = .ok (.putfield 134, 3) := by decide +kernel
theorem dM_clip_54 : decode b_M_clip 54 = .ok (.aload_n 0, 1) := by decide +kernel
theorem dM_clip_55 : decode b_M_clip 55 = .ok (.aload_n 0, 1) := by decide +kernel
theorem dM_clip_56 : decode b_M_clip 56 = .ok (.getfield 134, 3) := by decide +kernel
theorem dM_clip_59 : decode b_M_clip 59 = .ok (.sipush 2000, 3) := by decide +kernel
theorem dM_clip_62 : decode b_M_clip 62 = .ok (.if_icmp .le 9, 3) := by decide +kernel
theorem dM_clip_65 : decode b_M_clip 65 = .ok (.sipush 2000, 3) := by decide +kernel
theorem dM_clip_68 : decode b_M_clip 68 = .ok (.goto 7, 3) := by decide +kernel
theorem dM_clip_71 : decode b_M_clip 71 = .ok (.aload_n 0, 1) := by decide +kernel
theorem dM_clip_72 : decode b_M_clip 72 = .ok (.getfield 134, 3) := by decide +kernel
theorem dM_clip_75 : decode b_M_clip 75 = .ok (.putfield 134, 3) := by decide +kernel
theorem dM_clip_78 : decode b_M_clip 78 = .ok (.iconst 0, 1) := by decide +kernel
theorem dM_clip_79 : decode b_M_clip 79 = .ok (.istore_n 2, 1) := by decide +kernel
theorem dM_clip_80 : decode b_M_clip 80 = .ok (.iload_n 2, 1) := by decide +kernel
theorem dM_clip_81 : decode b_M_clip 81 = .ok (.sipush 2000, 3) := by decide +kernel
theorem dM_clip_84 : decode b_M_clip 84 = .ok (.if_icmp .gt 16, 3) := by decide +kernel
theorem dM_clip_87 : decode b_M_clip 87 = .ok (.aload_n 0, 1) := by decide +kernel
theorem dM_clip_88 : decode b_M_clip 88 = .ok (.getfield 38, 3) := by decide +kernel
theorem dM_clip_91 : decode b_M_clip 91 = .ok (.iload_n 2, 1) := by decide +kernel
theorem dM_clip_92 : decode b_M_clip 92 = .ok (.iconst 0, 1) := by decide +kernel
theorem dM_clip_93 : decode b_M_clip 93 = .ok (.iastore, 1) := by decide +kernel
theorem dM_clip_94 : decode b_M_clip 94 = .ok (.iinc 2 1, 3) := by decide +kernel
theorem dM_clip_97 : decode b_M_clip 97 = .ok (.goto (-17), 3) := by decide +kernel
theorem dM_clip_100 : decode b_M_clip 100 = .ok (.iconst 0, 1) := by decide +kernel
theorem dM_clip_101 : decode b_M_clip 101 = .ok (.istore_n 2, 1) := by decide +kernel
theorem dM_clip_102 : decode b_M_clip 102 = .ok (.iload_n 2, 1) := by decide +kernel
theorem dM_clip_103 : decode b_M_clip 103 = .ok (.aload_n 0, 1) := by decide +kernel
theorem dM_clip_104 : decode b_M_clip 104 = .ok (.getfield 125, 3) := by decide +kernel
theorem dM_clip_107 : decode b_M_clip 107 = .ok (.if_icmp .ge 48, 3) := by decide +kernel
theorem dM_clip_110 : decode b_M_clip 110 = .ok (.aload_n 0, 1) := by decide +kernel
theorem dM_clip_111 : decode b_M_clip 111 = .ok (.iload_n 2, 1) := by decide +kernel
theorem dM_clip_112 : decode b_M_clip 112 = .ok (.invokevirtual 128, 3) := by decide +kernel
theorem dM_clip_115 : decode b_M_clip 115 = .ok (.istore_n 3, 1) := by decide +kernel
theorem dM_clip_116 : decode b_M_clip 116 = .ok (.iload_n 3, 1) := by decide +kernel
theorem dM_clip_117 : decode b_M_clip 117 = .ok (.iconst (-1), 1) := by decide +kernel
theorem dM_clip_118 : decode b_M_clip 118 = .ok (.if_icmp .eq 31, 3) := by decide +kernel
theorem dM_clip_121 : decode b_M_clip 121 = .ok (.iload_n 3, 1) := by decide +kernel
theorem dM_clip_122 : decode b_M_clip 122 = .ok (.iload_n 1, 1) := by decide +kernel
theorem dM_clip_123 : decode b_M_clip 123 = .ok (.idiv, 1) := by decide +kernel
theorem dM_clip_124 : decode b_M_clip 124 = .ok (.sipush 2000, 3) := by decide +kernel
theorem dM_clip_127 : decode b_M_clip 127 = .ok (.if_icmp .gt 22, 3) := by decide +kernel
theorem dM_clip_130 : decode b_M_clip 130 = .ok (.aload_n 0, 1) := by decide +kernel
theorem dM_clip_131 : decode b_M_clip 131 = .ok (.getfield 38, 3) := by decide +kernel
theorem dM_clip_134 : decode b_M_clip 134 = .ok (.iload_n 3, 1) := by decide +kernel
theorem dM_clip_135 : decode b_M_clip 135 = .ok (.iload_n 1, 1) := by decide +kernel
theorem dM_clip_136 : decode b_M_clip 136 = .ok (.idiv, 1) := by decide +kernel
theorem dM_clip_137 : decode b_M_clip 137 = .ok (.dup2, 1) := by decide +kernel
theorem dM_clip_138 : decode b_M_clip 138 = .ok (.iaload, 1) := by decide +kernel
theorem dM_clip_139 : decode b_M_clip 139 = .ok (.iconst 1, 1) := by decide +kernel
theorem dM_clip_140 : decode b_M_clip 140 = .ok (.aload_n 0, 1) := by decide +kernel
theorem dM_clip_141 : decode b_M_clip 141 = .ok (.getfield 26, 3) := by decide +kernel
theorem dM_clip_144 : decode b_M_clip 144 = .ok (.iload_n 2, 1) := by decide +kernel
theorem dM_clip_145 : decode b_M_clip 145 = .ok (.iaload, 1) := by decide +kernel
theorem dM_clip_146 : decode b_M_clip 146 = .ok (.ishl, 1) := by decide +kernel
theorem dM_clip_147 : decode b_M_clip 147 = .ok (.ior, 1) := by decide +kernel
theorem dM_clip_148 : decode b_M_clip 148 = .ok (.iastore, 1) := by decide +kernel
theorem dM_clip_149 : decode b_M_clip 149 = .ok (.iinc 2 1, 3) := by decide +kernel
theorem dM_clip_152 : decode b_M_clip 152 = .ok (.goto (-50), 3) := by decide +kernel
theorem dM_clip_155 : decode b_M_clip 155 = .ok (.aload_n 0, 1) := by decide +kernel
theorem dM_clip_156 : decode b_M_clip 156 = .ok (.getfield 41, 3) := by decide +kernel
theorem dM_clip_159 : decode b_M_clip 159 = .ok (.aload_n 0, 1) := by decide +kernel
theorem dM_clip_160 : decode b_M_clip 160 = .ok (.getfield 134, 3) := by decide +kernel
theorem dM_clip_163 : decode b_M_clip 163 = .ok (.lconst 0, 1) := by decide +kernel
theorem dM_clip_164 : decode b_M_clip 164 = .ok (.lastore, 1) := by decide +kernel
theorem dM_clip_165 : decode b_M_clip 165 = .ok (.aload_n 0, 1) := by decide +kernel
theorem dM_clip_166 : decode b_M_clip 166 = .ok (.getfield 45, 3) := by decide +kernel
theorem dM_clip_169 : decode b_M_clip 169 = .ok (.aload_n 0, 1) := by decide +kernel
theorem dM_clip_170 : decode b_M_clip 170 = .ok (.getfield 134, 3) := by decide +kernel
theorem dM_clip_173 : decode b_M_clip 173 = .ok (.iconst 0, 1) := by decide +kernel
theorem dM_clip_174 : decode b_M_clip 174 = .ok (.iastore, 1) := by decide +kernel
theorem dM_clip_175 : decode b_M_clip 175 = .ok (.aload_n 0, 1) := by decide +kernel
theorem dM_clip_176 : decode b_M_clip 176 = .ok (.getfield 134, 3) := by decide +kernel
theorem dM_clip_179 : decode b_M_clip 179 = .ok (.iconst 1, 1) := by decide +kernel
theorem dM_clip_180 : decode b_M_clip 180 = .ok (.isub, 1) := by decide +kernel
theorem dM_clip_181 : decode b_M_clip 181 = .ok (.istore_n 2, 1) := by decide +kernel
theorem dM_clip_182 : decode b_M_clip 182 = .ok (.iload_n 2, 1) := by decide +kernel
theorem dM_clip_183 : decode b_M_clip 183 = .ok (.ifCond .lt 119, 3) := by decide +kernel
theorem dM_clip_186 : decode b_M_clip 186 = .ok (.aload_n 0, 1) := by decide +kernel
theorem dM_clip_187 : decode b_M_clip 187 = .ok (.getfield 41, 3) := by decide +kernel
theorem dM_clip_190 : decode b_M_clip 190 = .ok (.iload_n 2, 1) := by decide +kernel
theorem dM_clip_191 : decode b_M_clip 191 = .ok (.aload_n 0, 1) := by decide +kernel
theorem dM_clip_192 : decode b_M_clip 192 = .ok (.getfield 41, 3) := by decide +kernel
theorem dM_clip_195 : decode b_M_clip 195 = .ok (.iload_n 2, 1) := by decide +kernel
theorem dM_clip_196 : decode b_M_clip 196 = .ok (.iconst 1, 1) := by decide +kernel
theorem dM_clip_197 : decode b_M_clip 197 = .ok (.iadd, 1) := by decide +kernel
theorem dM_clip_198 : decode b_M_clip 198 = .ok (.laload, 1) := by decide +kernel
theorem dM_clip_199 : decode b_M_clip 199 = .ok (.lastore, 1) := by decide +kernel
theorem dM_clip_200 : decode b_M_clip 200 = .ok (.aload_n 0, 1) := by decide +kernel
theorem dM_clip_201 : decode b_M_clip 201 = .ok (.getfield 45, 3) := by decide +kernel
end
section
theorem dM_clip_204 : decode b_M_clip 204 = .ok (.iload_n 2, 1) := by decide +kernel
theorem dM_clip_205 : decode b_M_clip 205 = .ok (.aload_n 0, 1) := by decide +kernel
theorem dM_clip_206 : decode b_M_clip 206 = .ok (.getfield 45, 3) := by decide +kernel
theorem dM_clip_209 : decode b_M_clip 209 = .ok (.iload_n 2, 1) := by decide +kernel
theorem dM_clip_210 : decode b_M_clip 210 = .ok (.iconst 1, 1) := by decide +kernel
theorem dM_clip_211 : decode b_M_clip 211 = .ok (.iadd, 1) := by decide +kernel
theorem dM_clip_212 : decode b_M_clip 212 = .ok (.iaload, 1) := by decide +kernel
theorem dM_clip_213 : decode b_M_clip 213 = .ok (.iconst 1, 1) := by decide +kernel
theorem dM_clip_214 : decode b_M_clip 214 = .ok (.iadd, 1) := by decide +kernel
theorem dM_clip_215 : decode b_M_clip 215 = .ok (.iastore, 1) := by decide +kernel
theorem dM_clip_216 : decode b_M_clip 216 = .ok (.iconst 0, 1) := by decide +kernel
theorem dM_clip_217 : decode b_M_clip 217 = .ok (.istore_n 3, 1) := by decide +kernel
theorem dM_clip_218 : decode b_M_clip 218 = .ok (.iload_n 3, 1) := by decide +kernel
theorem dM_clip_219 : decode b_M_clip 219 = .ok (.aload_n 0, 1) := by decide +kernel
theorem dM_clip_220 : decode b_M_clip 220 = .ok (.getfield 131, 3) := by decide +kernel
theorem dM_clip_223 : decode b_M_clip 223 = .ok (.if_icmp .ge 73, 3) := by decide +kernel
theorem dM_clip_226 : decode b_M_clip 226 = .ok (.aload_n 0, 1) := by decide +kernel
theorem dM_clip_227 : decode b_M_clip 227 = .ok (.iload_n 3, 1) := by decide +kernel
theorem dM_clip_228 : decode b_M_clip 228 = .ok (.iload_n 2, 1) := by decide +kernel
theorem dM_clip_229 : decode b_M_clip 229 = .ok (.invokevirtual 137, 3) := by decide +kernel
theorem dM_clip_232 : decode b_M_clip 232 = .ok (.ifCond .eq 58, 3) := by decide +kernel
theorem dM_clip_235 : decode b_M_clip 235 = .ok (.aload_n 0, 1) := by decide +kernel
theorem dM_clip_236 : decode b_M_clip 236 = .ok (.iload_n 3, 1) := by decide +kernel
theorem dM_clip_237 : decode b_M_clip 237 = .ok (.iload_n 2, 1) := by decide +kernel
theorem dM_clip_238 : decode b_M_clip 238 = .ok (.invokevirtual 141, 3) := by decide +kernel
theorem dM_clip_241 : decode b_M_clip 241 = .ok (.ifCond .le 49, 3) := by decide +kernel
theorem dM_clip_244 : decode b_M_clip 244 = .ok (.aload_n 0, 1) := by decide +kernel
theorem dM_clip_245 : decode b_M_clip 245 = .ok (.getfield 41, 3) := by decide +kernel
theorem dM_clip_248 : decode b_M_clip 248 = .ok (.iload_n 2, 1) := by decide +kernel
theorem dM_clip_249 : decode b_M_clip 249 = .ok (.aload_n 0, 1) := by decide +kernel
theorem dM_clip_250 : decode b_M_clip 250 = .ok (.getfield 32, 3) := by decide +kernel
theorem dM_clip_253 : decode b_M_clip 253 = .ok (.iload_n 3, 1) := by decide +kernel
theorem dM_clip_254 : decode b_M_clip 254 = .ok (.iaload, 1) := by decide +kernel
theorem dM_clip_255 : decode b_M_clip 255 = .ok (.i2l, 1) := by decide +kernel
theorem dM_clip_256 : decode b_M_clip 256 = .ok (.aload_n 0, 1) := by decide +kernel
theorem dM_clip_257 : decode b_M_clip 257 = .ok (.getfield 41, 3) := by decide +kernel
theorem dM_clip_260 : decode b_M_clip 260 = .ok (.iload_n 2, 1) := by decide +kernel
theorem dM_clip_261 : decode b_M_clip 261 = .ok (.aload_n 0, 1) := by decide +kernel
theorem dM_clip_262 : decode b_M_clip 262 = .ok (.getfield 29, 3) := by decide +kernel
theorem dM_clip_265 : decode b_M_clip 265 = .ok (.iload_n 3, 1) := by decide +kernel
theorem dM_clip_266 : decode b_M_clip 266 = .ok (.iaload, 1) := by decide +kernel
theorem dM_clip_267 : decode b_M_clip 267 = .ok (.iadd, 1) := by decide +kernel
theorem dM_clip_268 : decode b_M_clip 268 = .ok (.laload, 1) := by decide +kernel
theorem dM_clip_269 : decode b_M_clip 269 = .ok (.ladd, 1) := by decide +kernel
theorem dM_clip_270 : decode b_M_clip 270 = .ok (.lastore, 1) := by decide +kernel
theorem dM_clip_271 : decode b_M_clip 271 = .ok (.aload_n 0, 1) := by decide +kernel
theorem dM_clip_272 : decode b_M_clip 272 = .ok (.getfield 45, 3) := by decide +kernel
theorem dM_clip_275 : decode b_M_clip 275 = .ok (.iload_n 2, 1) := by decide +kernel
theorem dM_clip_276 : decode b_M_clip 276 = .ok (.aload_n 0, 1) := by decide +kernel
theorem dM_clip_277 : decode b_M_clip 277 = .ok (.getfield 45, 3) := by decide +kernel
theorem dM_clip_280 : decode b_M_clip 280 = .ok (.iload_n 2, 1) := by decide +kernel
theorem dM_clip_281 : decode b_M_clip 281 = .ok (.aload_n 0, 1) := by decide +kernel
theorem dM_clip_282 : decode b_M_clip 282 = .ok (.getfield 29, 3) := by decide +kernel
theorem dM_clip_285 : decode b_M_clip 285 = .ok (.iload_n 3, 1) := by decide +kernel
theorem dM_clip_286 : decode b_M_clip 286 = .ok (.iaload, 1) := by decide +kernel
theorem dM_clip_287 : decode b_M_clip 287 = .ok (.iadd, 1) := by decide +kernel
theorem dM_clip_288 : decode b_M_clip 288 = .ok (.iaload, 1) := by decide +kernel
theorem dM_clip_289 : decode b_M_clip 289 = .ok (.iastore, 1) := by decide +kernel
theorem dM_clip_290 : decode b_M_clip 290 = .ok (.iinc 3 1, 3) := by decide +kernel
theorem dM_clip_293 : decode b_M_clip 293 = .ok (.goto (-75), 3) := by decide +kernel
theorem dM_clip_296 : decode b_M_clip 296 = .ok (.iinc 2 (-1), 3) := by decide +kernel
theorem dM_clip_299 : decode b_M_clip 299 = .ok (.goto (-117), 3) := by decide +kernel
theorem dM_clip_302 : decode b_M_clip 302 = .ok (.aload_n 0, 1) := by decide +kernel
theorem dM_clip_303 : decode b_M_clip 303 = .ok (.iconst 0, 1) := by decide +kernel
theorem dM_clip_304 : decode b_M_clip 304 = .ok (.putfield 143, 3) := by decide +kernel
theorem dM_clip_307 : decode b_M_clip 307 = .ok (.iconst 0, 1) := by decide +kernel
theorem dM_clip_308 : decode b_M_clip 308 = .ok (.istore_n 2, 1) := by decide +kernel
theorem dM_clip_309 : decode b_M_clip 309 = .ok (.iload_n 2, 1) := by decide +kernel
theorem dM_clip_310 : decode b_M_clip 310 = .ok (.aload_n 0, 1) := by decide +kernel
theorem dM_clip_311 : decode b_M_clip 311 = .ok (.getfield 134, 3) := by decide +kernel
theorem dM_clip_314 : decode b_M_clip 314 = .ok (.if_icmp .ge 93, 3) := by decide +kernel
theorem dM_clip_317 : decode b_M_clip 317 = .ok (.iconst 0, 1) := by decide +kernel
theorem dM_clip_318 : decode b_M_clip 318 = .ok (.istore_n 3, 1) := by decide +kernel
theorem dM_clip_319 : decode b_M_clip 319 = .ok (.iload_n 3, 1) := by decide +kernel
theorem dM_clip_320 : decode b_M_clip 320 = .ok (.aload_n 0, 1) := by decide +kernel
theorem dM_clip_321 : decode b_M_clip 321 = .ok (.getfield 131, 3) := by decide +kernel
theorem dM_clip_324 : decode b_M_clip 324 = .ok (.if_icmp .ge 27, 3) := by decide +kernel
theorem dM_clip_327 : decode b_M_clip 327 = .ok (.aload_n 0, 1) := by decide +kernel
theorem dM_clip_328 : decode b_M_clip 328 = .ok (.iload_n 3, 1) := by decide +kernel
theorem dM_clip_329 : decode b_M_clip 329 = .ok (.iload_n 2, 1) := by decide +kernel
theorem dM_clip_330 : decode b_M_clip 330 = .ok (.invokevirtual 137, 3) := by decide +kernel
theorem dM_clip_333 : decode b_M_clip 333 = .ok (.ifCond .eq 12, 3) := by decide +kernel
theorem dM_clip_336 : decode b_M_clip 336 = .ok (.aload_n 0, 1) := by decide +kernel
theorem dM_clip_337 : decode b_M_clip 337 = .ok (.iload_n 3, 1) := by decide +kernel
theorem dM_clip_338 : decode b_M_clip 338 = .ok (.iload_n 2, 1) := by decide +kernel
theorem dM_clip_339 : decode b_M_clip 339 = .ok (.invokevirtual 141, 3) := by decide +kernel
theorem dM_clip_342 : decode b_M_clip 342 = .ok (.ifCond .eq 9, 3) := by decide +kernel
theorem dM_clip_345 : decode b_M_clip 345 = .ok (.iinc 3 1, 3) := by decide +kernel
theorem dM_clip_348 : decode b_M_clip 348 = .ok (.goto (-29), 3) := by decide +kernel
theorem dM_clip_351 : decode b_M_clip 351 = .ok (.iload_n 3, 1) := by decide +kernel
theorem dM_clip_352 : decode b_M_clip 352 = .ok (.aload_n 0, 1) := by decide +kernel
theorem dM_clip_353 : decode b_M_clip 353 = .ok (.getfield 131, 3) := by decide +kernel
theorem dM_clip_356 : decode b_M_clip 356 = .ok (.if_icmp .ge 45, 3) := by decide +kernel
theorem dM_clip_359 : decode b_M_clip 359 = .ok (.aload_n 0, 1) := by decide +kernel
theorem dM_clip_360 : decode b_M_clip 360 = .ok (.getfield 48, 3) := by decide +kernel
theorem dM_clip_363 : decode b_M_clip 363 = .ok (.aload_n 0, 1) := by decide +kernel
theorem dM_clip_364 : decode b_M_clip 364 = .ok (.getfield 143, 3) := by decide +kernel
theorem dM_clip_367 : decode b_M_clip 367 = .ok (.iload_n 3, 1) := by decide +kernel
theorem dM_clip_368 : decode b_M_clip 368 = .ok (.iastore, 1) := by decide +kernel
theorem dM_clip_369 : decode b_M_clip 369 = .ok (.aload_n 0, 1) := by decide +kernel
theorem dM_clip_370 : decode b_M_clip 370 = .ok (.getfield 51, 3) := by decide +kernel
theorem dM_clip_373 : decode b_M_clip 373 = .ok (.aload_n 0, 1) := by decide +kernel
theorem dM_clip_374 : decode b_M_clip 374 = .ok (.getfield 143, 3) := by decide +kernel
theorem dM_clip_377 : decode b_M_clip 377 = .ok (.iload_n 2, 1) := by decide +kernel
theorem dM_clip_378 : decode b_M_clip 378 = .ok (.iastore, 1) := by decide +kernel
theorem dM_clip_379 : decode b_M_clip 379 = .ok (.aload_n 0, 1) := by decide +kernel
theorem dM_clip_380 : decode b_M_clip 380 = .ok (.dup, 1) := by decide +kernel
theorem dM_clip_381 : decode b_M_clip 381 = .ok (.getfield 143, 3) := by decide +kernel
theorem dM_clip_384 : decode b_M_clip 384 = .ok (.iconst 1, 1) := by decide +kernel
theorem dM_clip_385 : decode b_M_clip 385 = .ok (.iadd, 1) := by decide +kernel
theorem dM_clip_386 : decode b_M_clip 386 = .ok (.putfield 143, 3) := by decide +kernel
theorem dM_clip_389 : decode b_M_clip 389 = .ok (.iload_n 2, 1) := by decide +kernel
theorem dM_clip_390 : decode b_M_clip 390 = .ok (.aload_n 0, 1) := by decide +kernel
theorem dM_clip_391 : decode b_M_clip 391 = .ok (.getfield 29, 3) := by decide +kernel
theorem dM_clip_394 : decode b_M_clip 394 = .ok (.iload_n 3, 1) := by decide +kernel
theorem dM_clip_395 : decode b_M_clip 395 = .ok (.iaload, 1) := by decide +kernel
theorem dM_clip_396 : decode b_M_clip 396 = .ok (.iadd, 1) := by decide +kernel
theorem dM_clip_397 : decode b_M_clip 397 = .ok (.istore_n 2, 1) := by decide +kernel
theorem dM_clip_398 : decode b_M_clip 398 = .ok (.goto 6, 3) := by decide +kernel
theorem dM_clip_401 : decode b_M_clip 401 = .ok (.iinc 2 1, 3) := by decide +kernel
theorem dM_clip_404 : decode b_M_clip 404 = .ok (.goto (-95), 3) := by decide +kernel
theorem dM_clip_407 : decode b_M_clip 407 = .ok (.aload_n 0, 1) := by decide +kernel
theorem dM_clip_408 : decode b_M_clip 408 = .ok (.iconst 1, 1) := by decide +kernel
theorem dM_clip_409 : decode b_M_clip 409 = .ok (.putfield 84, 3) := by decide +kernel
theorem dM_clip_412 : decode b_M_clip 412 = .ok (.aload_n 0, 1) := by decide +kernel
theorem dM_clip_413 : decode b_M_clip 413 = .ok (.getfield 143, 3) := by decide +kernel
theorem dM_clip_416 : decode b_M_clip 416 = .ok (.ireturn, 1) := by decide +kernel
theorem dM_at_0 : decode b_M_at 0 = .ok (.aload_n 0, 1) := by decide +kernel
theorem dM_at_1 : decode b_M_at 1 = .ok (.aload_n 0, 1) := by decide +kernel
theorem dM_at_2 : decode b_M_at 2 = .ok (.getfield 84, 3) := by decide +kernel
theorem dM_at_5 : decode b_M_at 5 = .ok (.ifCond .ne 7, 3) := by decide +kernel
theorem dM_at_8 : decode b_M_at 8 = .ok (.iconst 1, 1) := by decide +kernel
theorem dM_at_9 : decode b_M_at 9 = .ok (.goto 31, 3) := by decide +kernel
theorem dM_at_12 : decode b_M_at 12 = .ok (.iload_n 1, 1) := by decide +kernel
theorem dM_at_13 : decode b_M_at 13 = .ok (.iconst 0, 1) := by decide +kernel
theorem dM_at_14 : decode b_M_at 14 = .ok (.aload_n 0, 1) := by decide +kernel
theorem dM_at_15 : decode b_M_at 15 = .ok (.getfield 143, 3) := by decide +kernel
theorem dM_at_18 : decode b_M_at 18 = .ok (.iconst 1, 1) := by decide +kernel
theorem dM_at_19 : decode b_M_at 19 = .ok (.isub, 1) := by decide +kernel
theorem dM_at_20 : decode b_M_at 20 = .ok (.invokestatic 73, 3) := by decide +kernel
theorem dM_at_23 : decode b_M_at 23 = .ok (.ifCond .eq 16, 3) := by decide +kernel
theorem dM_at_26 : decode b_M_at 26 = .ok (.iload_n 2, 1) := by decide +kernel
theorem dM_at_27 : decode b_M_at 27 = .ok (.iconst 0, 1) := by decide +kernel
theorem dM_at_28 : decode b_M_at 28 = .ok (.iconst 1, 1) := by decide +kernel
theorem dM_at_29 : decode b_M_at 29 = .ok (.invokestatic 73, 3) := by decide +kernel
theorem dM_at_32 : decode b_M_at 32 = .ok (.ifCond .eq 7, 3) := by decide +kernel
theorem dM_at_35 : decode b_M_at 35 = .ok (.iconst 0, 1) := by decide +kernel
theorem dM_at_36 : decode b_M_at 36 = .ok (.goto 4, 3) := by decide +kernel
theorem dM_at_39 : decode b_M_at 39 = .ok (.iconst 2, 1) := by decide +kernel
theorem dM_at_40 : decode b_M_at 40 = .ok (.putfield 70, 3) := by decide +kernel
theorem dM_at_43 : decode b_M_at 43 = .ok (.aload_n 0, 1) := by decide +kernel
theorem dM_at_44 : decode b_M_at 44 = .ok (.getfield 70, 3) := by decide +kernel
theorem dM_at_47 : decode b_M_at 47 = .ok (.ifCond .le 7, 3) := by decide +kernel
theorem dM_at_50 : decode b_M_at 50 = .ok (.iconst 0, 1) := by decide +kernel
theorem dM_at_51 : decode b_M_at 51 = .ok (.goto 22, 3) := by decide +kernel
theorem dM_at_54 : decode b_M_at 54 = .ok (.iload_n 2, 1) := by decide +kernel
theorem dM_at_55 : decode b_M_at 55 = .ok (.ifCond .ne 12, 3) := by decide +kernel
theorem dM_at_58 : decode b_M_at 58 = .ok (.aload_n 0, 1) := by decide +kernel
theorem dM_at_59 : decode b_M_at 59 = .ok (.getfield 48, 3) := by decide +kernel
theorem dM_at_62 : decode b_M_at 62 = .ok (.iload_n 1, 1) := by decide +kernel
theorem dM_at_63 : decode b_M_at 63 = .ok (.iaload, 1) := by decide +kernel
theorem dM_at_64 : decode b_M_at 64 = .ok (.goto 9, 3) := by decide +kernel
theorem dM_at_67 : decode b_M_at 67 = .ok (.aload_n 0, 1) := by decide +kernel
theorem dM_at_68 : decode b_M_at 68 = .ok (.getfield 51, 3) := by decide +kernel
theorem dM_at_71 : decode b_M_at 71 = .ok (.iload_n 1, 1) := by decide +kernel
theorem dM_at_72 : decode b_M_at 72 = .ok (.iaload, 1) := by decide +kernel
theorem dM_at_73 : decode b_M_at 73 = .ok (.ireturn, 1) := by decide +kernel
theorem dM_clipped_0 : decode b_M_clipped 0 = .ok (.aload_n 0, 1) := by decide +kernel
theorem dM_clipped_1 : decode b_M_clipped 1 = .ok (.aload_n 0, 1) := by decide +kernel
theorem dM_clipped_2 : decode b_M_clipped 2 = .ok (.getfield 84, 3) := by decide +kernel
theorem dM_clipped_5 : decode b_M_clipped 5 = .ok (.ifCond .ne 7, 3) := by decide +kernel
theorem dM_clipped_8 : decode b_M_clipped 8 = .ok (.iconst 1, 1) := by decide +kernel
theorem dM_clipped_9 : decode b_M_clipped 9 = .ok (.goto 17, 3) := by decide +kernel
theorem dM_clipped_12 : decode b_M_clipped 12 = .ok (.iload_n 1, 1) := by decide +kernel
theorem dM_clipped_13 : decode b_M_clipped 13 = .ok (.iconst 0, 1) := by decide +kernel
theorem dM_clipped_14 : decode b_M_clipped 14 = .ok (.iconst 2, 1) := by decide +kernel
theorem dM_clipped_15 : decode b_M_clipped 15 = .ok (.invokestatic 73, 3) := by decide +kernel
theorem dM_clipped_18 : decode b_M_clipped 18 = .ok (.ifCond .eq 7, 3) := by decide +kernel
theorem dM_clipped_21 : decode b_M_clipped 21 = .ok (.iconst 0, 1) := by decide +kernel
theorem dM_clipped_22 : decode b_M_clipped 22 = .ok (.goto 4, 3) := by decide +kernel
theorem dM_clipped_25 : decode b_M_clipped 25 = .ok (.iconst 2, 1) := by decide +kernel
theorem dM_clipped_26 : decode b_M_clipped 26 = .ok (.putfield 70, 3) := by decide +kernel
theorem dM_clipped_29 : decode b_M_clipped 29 = .ok (.aload_n 0, 1) := by decide +kernel
theorem dM_clipped_30 : decode b_M_clipped 30 = .ok (.getfield 70, 3) := by decide +kernel
theorem dM_clipped_33 : decode b_M_clipped 33 = .ok (.ifCond .le 7, 3) := by decide +kernel
theorem dM_clipped_36 : decode b_M_clipped 36 = .ok (.iconst 0, 1) := by decide +kernel
theorem dM_clipped_37 : decode b_M_clipped 37 = .ok (.goto 35, 3) := by decide +kernel
theorem dM_clipped_40 : decode b_M_clipped 40 = .ok (.iload_n 1, 1) := by decide +kernel
theorem dM_clipped_41 : decode b_M_clipped 41 = .ok (.ifCond .ne 13, 3) := by decide +kernel
theorem dM_clipped_44 : decode b_M_clipped 44 = .ok (.aload_n 0, 1) := by decide +kernel
theorem dM_clipped_45 : decode b_M_clipped 45 = .ok (.getfield 41, 3) := by decide +kernel
theorem dM_clipped_48 : decode b_M_clipped 48 = .ok (.iconst 0, 1) := by decide +kernel
theorem dM_clipped_49 : decode b_M_clipped 49 = .ok (.laload, 1) := by decide +kernel
theorem dM_clipped_50 : decode b_M_clipped 50 = .ok (.l2i, 1) := by decide +kernel
theorem dM_clipped_51 : decode b_M_clipped 51 = .ok (.goto 21, 3) := by decide +kernel
theorem dM_clipped_54 : decode b_M_clipped 54 = .ok (.iload_n 1, 1) := by decide +kernel
theorem dM_clipped_55 : decode b_M_clipped 55 = .ok (.iconst 1, 1) := by decide +kernel
theorem dM_clipped_56 : decode b_M_clipped 56 = .ok (.if_icmp .ne 12, 3) := by decide +kernel
theorem dM_clipped_59 : decode b_M_clipped 59 = .ok (.aload_n 0, 1) := by decide +kernel
theorem dM_clipped_60 : decode b_M_clipped 60 = .ok (.getfield 45, 3) := by decide +kernel
theorem dM_clipped_63 : decode b_M_clipped 63 = .ok (.iconst 0, 1) := by decide +kernel
theorem dM_clipped_64 : decode b_M_clipped 64 = .ok (.iaload, 1) := by decide +kernel
theorem dM_clipped_65 : decode b_M_clipped 65 = .ok (.goto 7, 3) := by decide +kernel
theorem dM_clipped_68 : decode b_M_clipped 68 = .ok (.aload_n 0, 1) := by decide +kernel
theorem dM_clipped_69 : decode b_M_clipped 69 = .ok (.getfield 134, 3) := by decide +kernel
theorem dM_clipped_72 : decode b_M_clipped 72 = .ok (.ireturn, 1) := by decide +kernel
theorem dM_shrink_0 : decode b_M_shrink 0 = .ok (.aload_n 0, 1) := by decide +kernel
theorem dM_shrink_1 : decode b_M_shrink 1 = .ok (.iload_n 1, 1) := by decide +kernel
theorem dM_shrink_2 : decode b_M_shrink 2 = .ok (.iconst 0, 1) := by decide +kernel
theorem dM_shrink_3 : decode b_M_shrink 3 = .ok (.aload_n 0, 1) := by decide +kernel
theorem dM_shrink_4 : decode b_M_shrink 4 = .ok (.getfield 131, 3) := by decide +kernel
theorem dM_shrink_7 : decode b_M_shrink 7 = .ok (.iconst 1, 1) := by decide +kernel
theorem dM_shrink_8 : decode b_M_shrink 8 = .ok (.isub, 1) := by decide +kernel
theorem dM_shrink_9 : decode b_M_shrink 9 = .ok (.invokestatic 73, 3) := by decide +kernel
theorem dM_shrink_12 : decode b_M_shrink 12 = .ok (.ifCond .ne 7, 3) := by decide +kernel
theorem dM_shrink_15 : decode b_M_shrink 15 = .ok (.iconst 1, 1) := by decide +kernel
theorem dM_shrink_16 : decode b_M_shrink 16 = .ok (.goto 28, 3) := by decide +kernel
theorem dM_shrink_19 : decode b_M_shrink 19 = .ok (.iload_n 3, 1) := by decide +kernel
theorem dM_shrink_20 : decode b_M_shrink 20 = .ok (.iconst 1, 1) := by decide +kernel
theorem dM_shrink_21 : decode b_M_shrink 21 = .ok (.sipush 1000, 3) := by decide +kernel
theorem dM_shrink_24 : decode b_M_shrink 24 = .ok (.invokestatic 73, 3) := by decide +kernel
theorem dM_shrink_27 : decode b_M_shrink 27 = .ok (.ifCond .eq 16, 3) := by decide +kernel
theorem dM_shrink_30 : decode b_M_shrink 30 = .ok (.iload_n 2, 1) := by decide +kernel
theorem dM_shrink_31 : decode b_M_shrink 31 = .ok (.iconst 0, 1) := by decide +kernel
theorem dM_shrink_32 : decode b_M_shrink 32 = .ok (.iload_n 3, 1) := by decide +kernel
theorem dM_shrink_33 : decode b_M_shrink 33 = .ok (.invokestatic 73, 3) := by decide +kernel
theorem dM_shrink_36 : decode b_M_shrink 36 = .ok (.ifCond .eq 7, 3) := by decide +kernel
theorem dM_shrink_39 : decode b_M_shrink 39 = .ok (.iconst 0, 1) := by decide +kernel
theorem dM_shrink_40 : decode b_M_shrink 40 = .ok (.goto 4, 3) := by decide +kernel
theorem dM_shrink_43 : decode b_M_shrink 43 = .ok (.iconst 2, 1) := by decide +kernel
theorem dM_shrink_44 : decode b_M_shrink 44 = .ok (.putfield 70, 3) := by decide +kernel
theorem dM_shrink_47 : decode b_M_shrink 47 = .ok (.aload_n 0, 1) := by decide +kernel
theorem dM_shrink_48 : decode b_M_shrink 48 = .ok (.getfield 70, 3) := by decide +kernel
theorem dM_shrink_51 : decode b_M_shrink 51 = .ok (.ifCond .le 7, 3) := by decide +kernel
theorem dM_shrink_54 : decode b_M_shrink 54 = .ok (.iconst 0, 1) := by decide +kernel
theorem dM_shrink_55 : decode b_M_shrink 55 = .ok (.goto 13, 3) := by decide +kernel
theorem dM_shrink_58 : decode b_M_shrink 58 = .ok (.aload_n 0, 1) := by decide +kernel
theorem dM_shrink_59 : decode b_M_shrink 59 = .ok (.getfield 29, 3) := by decide +kernel
theorem dM_shrink_62 : decode b_M_shrink 62 = .ok (.iload_n 1, 1) := by decide +kernel
theorem dM_shrink_63 : decode b_M_shrink 63 = .ok (.iaload, 1) := by decide +kernel
theorem dM_shrink_64 : decode b_M_shrink 64 = .ok (.iload_n 2, 1) := by decide +kernel
theorem dM_shrink_65 : decode b_M_shrink 65 = .ok (.imul, 1) := by decide +kernel
theorem dM_shrink_66 : decode b_M_shrink 66 = .ok (.iload_n 3, 1) := by decide +kernel
theorem dM_shrink_67 : decode b_M_shrink 67 = .ok (.idiv, 1) := by decide +kernel
theorem dM_shrink_68 : decode b_M_shrink 68 = .ok (.ireturn, 1) := by decide +kernel
theorem dM_row_0 : decode b_M_row 0 = .ok (.aload_n 0, 1) := by decide +kernel
theorem dM_row_1 : decode b_M_row 1 = .ok (.iload_n 1, 1) := by decide +kernel
theorem dM_row_2 : decode b_M_row 2 = .ok (.iconst 0, 1) := by decide +kernel
theorem dM_row_3 : decode b_M_row 3 = .ok (.sipush 1000, 3) := by decide +kernel
theorem dM_row_6 : decode b_M_row 6 = .ok (.invokestatic 73, 3) := by decide +kernel
theorem dM_row_9 : decode b_M_row 9 = .ok (.ifCond .eq 40, 3) := by decide +kernel
theorem dM_row_12 : decode b_M_row 12 = .ok (.aload_n 0, 1) := by decide +kernel
theorem dM_row_13 : decode b_M_row 13 = .ok (.getfield 146, 3) := by decide +kernel
theorem dM_row_16 : decode b_M_row 16 = .ok (.ifCond .eq 18, 3) := by decide +kernel
theorem dM_row_19 : decode b_M_row 19 = .ok (.iload_n 1, 1) := by decide +kernel
theorem dM_row_20 : decode b_M_row 20 = .ok (.aload_n 0, 1) := by decide +kernel
theorem dM_row_21 : decode b_M_row 21 = .ok (.getfield 54, 3) := by decide +kernel
theorem dM_row_24 : decode b_M_row 24 = .ok (.aload_n 0, 1) := by decide +kernel
theorem dM_row_25 : decode b_M_row 25 = .ok (.getfield 146, 3) := by decide +kernel
theorem dM_row_28 : decode b_M_row 28 = .ok (.iconst 1, 1) := by decide +kernel
theorem dM_row_29 : decode b_M_row 29 = .ok (.isub, 1) := by decide +kernel
theorem dM_row_30 : decode b_M_row 30 = .ok (.iaload, 1) := by decide +kernel
theorem dM_row_31 : decode b_M_row 31 = .ok (.if_icmp .ge 18, 3) := by decide +kernel
theorem dM_row_34 : decode b_M_row 34 = .ok (.iload_n 2, 1) := by decide +kernel
theorem dM_row_35 : decode b_M_row 35 = .ok (.bipush (-100), 2) := by decide +kernel
theorem dM_row_37 : decode b_M_row 37 = .ok (.bipush 100, 2) := by decide +kernel
theorem dM_row_39 : decode b_M_row 39 = .ok (.invokestatic 73, 3) := by decide +kernel
theorem dM_row_42 : decode b_M_row 42 = .ok (.ifCond .eq 7, 3) := by decide +kernel
theorem dM_row_45 : decode b_M_row 45 = .ok (.iconst 0, 1) := by decide +kernel
theorem dM_row_46 : decode b_M_row 46 = .ok (.goto 4, 3) := by decide +kernel
theorem dM_row_49 : decode b_M_row 49 = .ok (.iconst 1, 1) := by decide +kernel
theorem dM_row_50 : decode b_M_row 50 = .ok (.putfield 70, 3) := by decide +kernel
theorem dM_row_53 : decode b_M_row 53 = .ok (.aload_n 0, 1) := by decide +kernel
theorem dM_row_54 : decode b_M_row 54 = .ok (.getfield 70, 3) := by decide +kernel
theorem dM_row_57 : decode b_M_row 57 = .ok (.ifCond .gt 12, 3) := by decide +kernel
theorem dM_row_60 : decode b_M_row 60 = .ok (.aload_n 0, 1) := by decide +kernel
theorem dM_row_61 : decode b_M_row 61 = .ok (.getfield 146, 3) := by decide +kernel
theorem dM_row_64 : decode b_M_row 64 = .ok (.bipush 8, 2) := by decide +kernel
theorem dM_row_66 : decode b_M_row 66 = .ok (.if_icmp .ne 5, 3) := by decide +kernel
theorem dM_row_69 : decode b_M_row 69 = .ok (.iconst 0, 1) := by decide +kernel
theorem dM_row_70 : decode b_M_row 70 = .ok (.ireturn, 1) := by decide +kernel
theorem dM_row_71 : decode b_M_row 71 = .ok (.aload_n 0, 1) := by decide +kernel
theorem dM_row_72 : decode b_M_row 72 = .ok (.getfield 54, 3) := by decide +kernel
theorem dM_row_75 : decode b_M_row 75 = .ok (.aload_n 0, 1) := by decide +kernel
theorem dM_row_76 : decode b_M_row 76 = .ok (.getfield 146, 3) := by decide +kernel
theorem dM_row_79 : decode b_M_row 79 = .ok (.iload_n 1, 1) := by decide +kernel
theorem dM_row_80 : decode b_M_row 80 = .ok (.iastore, 1) := by decide +kernel
theorem dM_row_81 : decode b_M_row 81 = .ok (.aload_n 0, 1) := by decide +kernel
theorem dM_row_82 : decode b_M_row 82 = .ok (.getfield 57, 3) := by decide +kernel
theorem dM_row_85 : decode b_M_row 85 = .ok (.aload_n 0, 1) := by decide +kernel
theorem dM_row_86 : decode b_M_row 86 = .ok (.getfield 146, 3) := by decide +kernel
theorem dM_row_89 : decode b_M_row 89 = .ok (.iload_n 2, 1) := by decide +kernel
theorem dM_row_90 : decode b_M_row 90 = .ok (.iastore, 1) := by decide +kernel
theorem dM_row_91 : decode b_M_row 91 = .ok (.aload_n 0, 1) := by decide +kernel
theorem dM_row_92 : decode b_M_row 92 = .ok (.dup, 1) := by decide +kernel
theorem dM_row_93 : decode b_M_row 93 = .ok (.getfield 146, 3) := by decide +kernel
theorem dM_row_96 : decode b_M_row 96 = .ok (.iconst 1, 1) := by decide +kernel
theorem dM_row_97 : decode b_M_row 97 = .ok (.iadd, 1) := by decide +kernel
theorem dM_row_98 : decode b_M_row 98 = .ok (.putfield 146, 3) := by decide +kernel
theorem dM_row_101 : decode b_M_row 101 = .ok (.iconst 1, 1) := by decide +kernel
theorem dM_row_102 : decode b_M_row 102 = .ok (.ireturn, 1) := by decide +kernel
theorem dM_knife_0 : decode b_M_knife 0 = .ok (.aload_n 0, 1) := by decide +kernel
theorem dM_knife_1 : decode b_M_knife 1 = .ok (.iload_n 1, 1) := by decide +kernel
theorem dM_knife_2 : decode b_M_knife 2 = .ok (.iconst 0, 1) := by decide +kernel
theorem dM_knife_3 : decode b_M_knife 3 = .ok (.sipush 1000, 3) := by decide +kernel
theorem dM_knife_6 : decode b_M_knife 6 = .ok (.invokestatic 73, 3) := by decide +kernel
theorem dM_knife_9 : decode b_M_knife 9 = .ok (.ifCond .eq 7, 3) := by decide +kernel
theorem dM_knife_12 : decode b_M_knife 12 = .ok (.iconst 0, 1) := by decide +kernel
theorem dM_knife_13 : decode b_M_knife 13 = .ok (.goto 4, 3) := by decide +kernel
theorem dM_knife_16 : decode b_M_knife 16 = .ok (.iconst 1, 1) := by decide +kernel
theorem dM_knife_17 : decode b_M_knife 17 = .ok (.putfield 70, 3) := by decide +kernel
theorem dM_knife_20 : decode b_M_knife 20 = .ok (.iconst (-1), 1) := by decide +kernel
theorem dM_knife_21 : decode b_M_knife 21 = .ok (.istore_n 2, 1) := by decide +kernel
theorem dM_knife_22 : decode b_M_knife 22 = .ok (.iconst 0, 1) := by decide +kernel
theorem dM_knife_23 : decode b_M_knife 23 = .ok (.istore_n 3, 1) := by decide +kernel
theorem dM_knife_24 : decode b_M_knife 24 = .ok (.iload_n 3, 1) := by decide +kernel
theorem dM_knife_25 : decode b_M_knife 25 = .ok (.aload_n 0, 1) := by decide +kernel
theorem dM_knife_26 : decode b_M_knife 26 = .ok (.getfield 146, 3) := by decide +kernel
theorem dM_knife_29 : decode b_M_knife 29 = .ok (.if_icmp .ge 41, 3) := by decide +kernel
theorem dM_knife_32 : decode b_M_knife 32 = .ok (.aload_n 0, 1) := by decide +kernel
theorem dM_knife_33 : decode b_M_knife 33 = .ok (.getfield 70, 3) := by decide +kernel
theorem dM_knife_36 : decode b_M_knife 36 = .ok (.ifCond .ne 34, 3) := by decide +kernel
theorem dM_knife_39 : decode b_M_knife 39 = .ok (.aload_n 0, 1) := by decide +kernel
theorem dM_knife_40 : decode b_M_knife 40 = .ok (.getfield 54, 3) := by decide +kernel
theorem dM_knife_43 : decode b_M_knife 43 = .ok (.iload_n 3, 1) := by decide +kernel
theorem dM_knife_44 : decode b_M_knife 44 = .ok (.iaload, 1) := by decide +kernel
theorem dM_knife_45 : decode b_M_knife 45 = .ok (.iload_n 1, 1) := by decide +kernel
theorem dM_knife_46 : decode b_M_knife 46 = .ok (.if_icmp .lt 16, 3) := by decide +kernel
theorem dM_knife_49 : decode b_M_knife 49 = .ok (.sipush 1000, 3) := by decide +kernel
theorem dM_knife_52 : decode b_M_knife 52 = .ok (.aload_n 0, 1) := by decide +kernel
theorem dM_knife_53 : decode b_M_knife 53 = .ok (.getfield 57, 3) := by decide +kernel
theorem dM_knife_56 : decode b_M_knife 56 = .ok (.iload_n 3, 1) := by decide +kernel
theorem dM_knife_57 : decode b_M_knife 57 = .ok (.iaload, 1) := by decide +kernel
theorem dM_knife_58 : decode b_M_knife 58 = .ok (.iadd, 1) := by decide +kernel
theorem dM_knife_59 : decode b_M_knife 59 = .ok (.goto 4, 3) := by decide +kernel
theorem dM_knife_62 : decode b_M_knife 62 = .ok (.iload_n 2, 1) := by decide +kernel
theorem dM_knife_63 : decode b_M_knife 63 = .ok (.istore_n 2, 1) := by decide +kernel
theorem dM_knife_64 : decode b_M_knife 64 = .ok (.iinc 3 1, 3) := by decide +kernel
theorem dM_knife_67 : decode b_M_knife 67 = .ok (.goto (-43), 3) := by decide +kernel
theorem dM_knife_70 : decode b_M_knife 70 = .ok (.aload_n 0, 1) := by decide +kernel
theorem dM_knife_71 : decode b_M_knife 71 = .ok (.getfield 70, 3) := by decide +kernel
theorem dM_knife_74 : decode b_M_knife 74 = .ok (.ifCond .le 7, 3) := by decide +kernel
theorem dM_knife_77 : decode b_M_knife 77 = .ok (.iconst 0, 1) := by decide +kernel
theorem dM_knife_78 : decode b_M_knife 78 = .ok (.goto 4, 3) := by decide +kernel
theorem dM_knife_81 : decode b_M_knife 81 = .ok (.iload_n 2, 1) := by decide +kernel
theorem dM_knife_82 : decode b_M_knife 82 = .ok (.ireturn, 1) := by decide +kernel
end
section
theorem dW_at0_0 : decode b_W_at0 0 = .ok (.iload_n 1, 1) := by decide +kernel
theorem dW_at0_1 : decode b_W_at0 1 = .ok (.aload_n 0, 1) := by decide +kernel
theorem dW_at0_2 : decode b_W_at0 2 = .ok (.arraylength, 1) := by decide +kernel
theorem dW_at0_3 : decode b_W_at0 3 = .ok (.if_icmp .ge 9, 3) := by decide +kernel
theorem dW_at0_6 : decode b_W_at0 6 = .ok (.aload_n 0, 1) := by decide +kernel
theorem dW_at0_7 : decode b_W_at0 7 = .ok (.iload_n 1, 1) := by decide +kernel
theorem dW_at0_8 : decode b_W_at0 8 = .ok (.iaload, 1) := by decide +kernel
theorem dW_at0_9 : decode b_W_at0 9 = .ok (.goto 4, 3) := by decide +kernel
theorem dW_at0_12 : decode b_W_at0 12 = .ok (.iconst 0, 1) := by decide +kernel
theorem dW_at0_13 : decode b_W_at0 13 = .ok (.ireturn, 1) := by decide +kernel
theorem dW_cell_0 : decode b_W_cell 0 = .ok (.aload 5, 2) := by decide +kernel
theorem dW_cell_2 : decode b_W_cell 2 = .ok (.iconst 0, 1) := by decide +kernel
theorem dW_cell_3 : decode b_W_cell 3 = .ok (.aload_n 0, 1) := by decide +kernel
theorem dW_cell_4 : decode b_W_cell 4 = .ok (.iload_n 1, 1) := by decide +kernel
theorem dW_cell_5 : decode b_W_cell 5 = .ok (.iload_n 2, 1) := by decide +kernel
theorem dW_cell_6 : decode b_W_cell 6 = .ok (.iload_n 3, 1) := by decide +kernel
theorem dW_cell_7 : decode b_W_cell 7 = .ok (.iload 4, 2) := by decide +kernel
theorem dW_cell_9 : decode b_W_cell 9 = .ok (.invokevirtual 7, 3) := by decide +kernel
theorem dW_cell_12 : decode b_W_cell 12 = .ok (.ifCond .eq 7, 3) := by decide +kernel
theorem dW_cell_15 : decode b_W_cell 15 = .ok (.lconst 1, 1) := by decide +kernel
theorem dW_cell_16 : decode b_W_cell 16 = .ok (.goto 4, 3) := by decide +kernel
theorem dW_cell_19 : decode b_W_cell 19 = .ok (.lconst 0, 1) := by decide +kernel
theorem dW_cell_20 : decode b_W_cell 20 = .ok (.lastore, 1) := by decide +kernel
theorem dW_cell_21 : decode b_W_cell 21 = .ok (.goto 7, 3) := by decide +kernel
theorem dW_cell_24 : decode b_W_cell 24 = .ok (.astore 6, 2) := by decide +kernel
theorem dW_cell_26 : decode b_W_cell 26 = .ok (.iconst 1, 1) := by decide +kernel
theorem dW_cell_27 : decode b_W_cell 27 = .ok (.ireturn, 1) := by decide +kernel
theorem dW_cell_28 : decode b_W_cell 28 = .ok (.iconst 0, 1) := by decide +kernel
theorem dW_cell_29 : decode b_W_cell 29 = .ok (.ireturn, 1) := by decide +kernel
theorem dW_axis_0 : decode b_W_axis 0 = .ok (.aload_n 2, 1) := by decide +kernel
theorem dW_axis_1 : decode b_W_axis 1 = .ok (.iconst 0, 1) := by decide +kernel
theorem dW_axis_2 : decode b_W_axis 2 = .ok (.aload_n 0, 1) := by decide +kernel
theorem dW_axis_3 : decode b_W_axis 3 = .ok (.iload_n 1, 1) := by decide +kernel
theorem dW_axis_4 : decode b_W_axis 4 = .ok (.invokevirtual 15, 3) := by decide +kernel
theorem dW_axis_7 : decode b_W_axis 7 = .ok (.i2l, 1) := by decide +kernel
theorem dW_axis_8 : decode b_W_axis 8 = .ok (.lastore, 1) := by decide +kernel
theorem dW_axis_9 : decode b_W_axis 9 = .ok (.goto 6, 3) := by decide +kernel
theorem dW_axis_12 : decode b_W_axis 12 = .ok (.astore_n 3, 1) := by decide +kernel
theorem dW_axis_13 : decode b_W_axis 13 = .ok (.iconst 1, 1) := by decide +kernel
theorem dW_axis_14 : decode b_W_axis 14 = .ok (.ireturn, 1) := by decide +kernel
theorem dW_axis_15 : decode b_W_axis 15 = .ok (.iconst 0, 1) := by decide +kernel
theorem dW_axis_16 : decode b_W_axis 16 = .ok (.ireturn, 1) := by decide +kernel
theorem dW_roomOf_0 : decode b_W_roomOf 0 = .ok (.aload 5, 2) := by decide +kernel
theorem dW_roomOf_2 : decode b_W_roomOf 2 = .ok (.iconst 0, 1) := by decide +kernel
theorem dW_roomOf_3 : decode b_W_roomOf 3 = .ok (.aload_n 0, 1) := by decide +kernel
theorem dW_roomOf_4 : decode b_W_roomOf 4 = .ok (.iload_n 1, 1) := by decide +kernel
theorem dW_roomOf_5 : decode b_W_roomOf 5 = .ok (.iload_n 2, 1) := by decide +kernel
theorem dW_roomOf_6 : decode b_W_roomOf 6 = .ok (.iload_n 3, 1) := by decide +kernel
theorem dW_roomOf_7 : decode b_W_roomOf 7 = .ok (.iload 4, 2) := by decide +kernel
theorem dW_roomOf_9 : decode b_W_roomOf 9 = .ok (.invokevirtual 19, 3) := by decide +kernel
theorem dW_roomOf_12 : decode b_W_roomOf 12 = .ok (.i2l, 1) := by decide +kernel
theorem dW_roomOf_13 : decode b_W_roomOf 13 = .ok (.lastore, 1) := by decide +kernel
theorem dW_roomOf_14 : decode b_W_roomOf 14 = .ok (.goto 7, 3) := by decide +kernel
theorem dW_roomOf_17 : decode b_W_roomOf 17 = .ok (.astore 6, 2) := by decide +kernel
theorem dW_roomOf_19 : decode b_W_roomOf 19 = .ok (.iconst 1, 1) := by decide +kernel
theorem dW_roomOf_20 : decode b_W_roomOf 20 = .ok (.ireturn, 1) := by decide +kernel
theorem dW_roomOf_21 : decode b_W_roomOf 21 = .ok (.iconst 0, 1) := by decide +kernel
theorem dW_roomOf_22 : decode b_W_roomOf 22 = .ok (.ireturn, 1) := by decide +kernel
theorem dW_peel_0 : decode b_W_peel 0 = .ok (.aload_n 3, 1) := by decide +kernel
theorem dW_peel_1 : decode b_W_peel 1 = .ok (.iconst 0, 1) := by decide +kernel
theorem dW_peel_2 : decode b_W_peel 2 = .ok (.aload_n 0, 1) := by decide +kernel
theorem dW_peel_3 : decode b_W_peel 3 = .ok (.iload_n 1, 1) := by decide +kernel
theorem dW_peel_4 : decode b_W_peel 4 = .ok (.iload_n 2, 1) := by decide +kernel
theorem dW_peel_5 : decode b_W_peel 5 = .ok (.invokevirtual 23, 3) := by decide +kernel
theorem dW_peel_8 : decode b_W_peel 8 = .ok (.i2l, 1) := by decide +kernel
theorem dW_peel_9 : decode b_W_peel 9 = .ok (.lastore, 1) := by decide +kernel
theorem dW_peel_10 : decode b_W_peel 10 = .ok (.goto 7, 3) := by decide +kernel
theorem dW_peel_13 : decode b_W_peel 13 = .ok (.astore 4, 2) := by decide +kernel
theorem dW_peel_15 : decode b_W_peel 15 = .ok (.iconst 1, 1) := by decide +kernel
theorem dW_peel_16 : decode b_W_peel 16 = .ok (.ireturn, 1) := by decide +kernel
theorem dW_peel_17 : decode b_W_peel 17 = .ok (.iconst 0, 1) := by decide +kernel
theorem dW_peel_18 : decode b_W_peel 18 = .ok (.ireturn, 1) := by decide +kernel
theorem dW_before_0 : decode b_W_before 0 = .ok (.aload_n 2, 1) := by decide +kernel
theorem dW_before_1 : decode b_W_before 1 = .ok (.iconst 0, 1) := by decide +kernel
theorem dW_before_2 : decode b_W_before 2 = .ok (.aload_n 0, 1) := by decide +kernel
theorem dW_before_3 : decode b_W_before 3 = .ok (.iload_n 1, 1) := by decide +kernel
theorem dW_before_4 : decode b_W_before 4 = .ok (.invokevirtual 29, 3) := by decide +kernel
theorem dW_before_7 : decode b_W_before 7 = .ok (.i2l, 1) := by decide +kernel
theorem dW_before_8 : decode b_W_before 8 = .ok (.lastore, 1) := by decide +kernel
theorem dW_before_9 : decode b_W_before 9 = .ok (.goto 9, 3) := by decide +kernel
theorem dW_before_12 : decode b_W_before 12 = .ok (.astore_n 3, 1) := by decide +kernel
theorem dW_before_13 : decode b_W_before 13 = .ok (.iconst 1, 1) := by decide +kernel
theorem dW_before_14 : decode b_W_before 14 = .ok (.ireturn, 1) := by decide +kernel
theorem dW_before_15 : decode b_W_before 15 = .ok (.astore_n 3, 1) := by decide +kernel
theorem dW_before_16 : decode b_W_before 16 = .ok (.iconst 2, 1) := by decide +kernel
theorem dW_before_17 : decode b_W_before 17 = .ok (.ireturn, 1) := by decide +kernel
theorem dW_before_18 : decode b_W_before 18 = .ok (.iconst 0, 1) := by decide +kernel
theorem dW_before_19 : decode b_W_before 19 = .ok (.ireturn, 1) := by decide +kernel
theorem dW_fault_0 : decode b_W_fault 0 = .ok (.aload 4, 2) := by decide +kernel
theorem dW_fault_2 : decode b_W_fault 2 = .ok (.iconst 0, 1) := by decide +kernel
theorem dW_fault_3 : decode b_W_fault 3 = .ok (.aload_n 0, 1) := by decide +kernel
theorem dW_fault_4 : decode b_W_fault 4 = .ok (.iload_n 1, 1) := by decide +kernel
theorem dW_fault_5 : decode b_W_fault 5 = .ok (.iload_n 2, 1) := by decide +kernel
theorem dW_fault_6 : decode b_W_fault 6 = .ok (.iload_n 3, 1) := by decide +kernel
theorem dW_fault_7 : decode b_W_fault 7 = .ok (.invokevirtual 34, 3) := by decide +kernel
theorem dW_fault_10 : decode b_W_fault 10 = .ok (.i2l, 1) := by decide +kernel
theorem dW_fault_11 : decode b_W_fault 11 = .ok (.lastore, 1) := by decide +kernel
theorem dW_fault_12 : decode b_W_fault 12 = .ok (.goto 11, 3) := by decide +kernel
theorem dW_fault_15 : decode b_W_fault 15 = .ok (.astore 5, 2) := by decide +kernel
theorem dW_fault_17 : decode b_W_fault 17 = .ok (.iconst 1, 1) := by decide +kernel
theorem dW_fault_18 : decode b_W_fault 18 = .ok (.ireturn, 1) := by decide +kernel
theorem dW_fault_19 : decode b_W_fault 19 = .ok (.astore 5, 2) := by decide +kernel
theorem dW_fault_21 : decode b_W_fault 21 = .ok (.iconst 2, 1) := by decide +kernel
theorem dW_fault_22 : decode b_W_fault 22 = .ok (.ireturn, 1) := by decide +kernel
theorem dW_fault_23 : decode b_W_fault 23 = .ok (.iconst 0, 1) := by decide +kernel
theorem dW_fault_24 : decode b_W_fault 24 = .ok (.ireturn, 1) := by decide +kernel
theorem dW_unrolled_0 : decode b_W_unrolled 0 = .ok (.aload_n 2, 1) := by decide +kernel
theorem dW_unrolled_1 : decode b_W_unrolled 1 = .ok (.iconst 0, 1) := by decide +kernel
theorem dW_unrolled_2 : decode b_W_unrolled 2 = .ok (.aload_n 0, 1) := by decide +kernel
theorem dW_unrolled_3 : decode b_W_unrolled 3 = .ok (.iload_n 1, 1) := by decide +kernel
theorem dW_unrolled_4 : decode b_W_unrolled 4 = .ok (.invokevirtual 38, 3) := by decide +kernel
theorem dW_unrolled_7 : decode b_W_unrolled 7 = .ok (.i2l, 1) := by decide +kernel
theorem dW_unrolled_8 : decode b_W_unrolled 8 = .ok (.lastore, 1) := by decide +kernel
theorem dW_unrolled_9 : decode b_W_unrolled 9 = .ok (.goto 9, 3) := by decide +kernel
theorem dW_unrolled_12 : decode b_W_unrolled 12 = .ok (.astore_n 3, 1) := by decide +kernel
theorem dW_unrolled_13 : decode b_W_unrolled 13 = .ok (.iconst 1, 1) := by decide +kernel
theorem dW_unrolled_14 : decode b_W_unrolled 14 = .ok (.ireturn, 1) := by decide +kernel
theorem dW_unrolled_15 : decode b_W_unrolled 15 = .ok (.astore_n 3, 1) := by decide +kernel
theorem dW_unrolled_16 : decode b_W_unrolled 16 = .ok (.iconst 2, 1) := by decide +kernel
theorem dW_unrolled_17 : decode b_W_unrolled 17 = .ok (.ireturn, 1) := by decide +kernel
theorem dW_unrolled_18 : decode b_W_unrolled 18 = .ok (.iconst 0, 1) := by decide +kernel
theorem dW_unrolled_19 : decode b_W_unrolled 19 = .ok (.ireturn, 1) := by decide +kernel
theorem dW_leaf_0 : decode b_W_leaf 0 = .ok (.aload_n 3, 1) := by decide +kernel
theorem dW_leaf_1 : decode b_W_leaf 1 = .ok (.iconst 0, 1) := by decide +kernel
theorem dW_leaf_2 : decode b_W_leaf 2 = .ok (.aload_n 0, 1) := by decide +kernel
theorem dW_leaf_3 : decode b_W_leaf 3 = .ok (.iload_n 1, 1) := by decide +kernel
theorem dW_leaf_4 : decode b_W_leaf 4 = .ok (.iload_n 2, 1) := by decide +kernel
theorem dW_leaf_5 : decode b_W_leaf 5 = .ok (.invokevirtual 41, 3) := by decide +kernel
theorem dW_leaf_8 : decode b_W_leaf 8 = .ok (.i2l, 1) := by decide +kernel
theorem dW_leaf_9 : decode b_W_leaf 9 = .ok (.lastore, 1) := by decide +kernel
theorem dW_leaf_10 : decode b_W_leaf 10 = .ok (.goto 11, 3) := by decide +kernel
theorem dW_leaf_13 : decode b_W_leaf 13 = .ok (.astore 4, 2) := by decide +kernel
theorem dW_leaf_15 : decode b_W_leaf 15 = .ok (.iconst 1, 1) := by decide +kernel
theorem dW_leaf_16 : decode b_W_leaf 16 = .ok (.ireturn, 1) := by decide +kernel
theorem dW_leaf_17 : decode b_W_leaf 17 = .ok (.astore 4, 2) := by decide +kernel
theorem dW_leaf_19 : decode b_W_leaf 19 = .ok (.iconst 2, 1) := by decide +kernel
theorem dW_leaf_20 : decode b_W_leaf 20 = .ok (.ireturn, 1) := by decide +kernel
theorem dW_leaf_21 : decode b_W_leaf 21 = .ok (.iconst 0, 1) := by decide +kernel
theorem dW_leaf_22 : decode b_W_leaf 22 = .ok (.ireturn, 1) := by decide +kernel
theorem dW_bars_0 : decode b_W_bars 0 = .ok (.aload 4, 2) := by decide +kernel
theorem dW_bars_2 : decode b_W_bars 2 = .ok (.iconst 0, 1) := by decide +kernel
theorem dW_bars_3 : decode b_W_bars 3 = .ok (.aload_n 0, 1) := by decide +kernel
theorem dW_bars_4 : decode b_W_bars 4 = .ok (.iload_n 1, 1) := by decide +kernel
theorem dW_bars_5 : decode b_W_bars 5 = .ok (.iload_n 2, 1) := by decide +kernel
theorem dW_bars_6 : decode b_W_bars 6 = .ok (.iload_n 3, 1) := by decide +kernel
theorem dW_bars_7 : decode b_W_bars 7 = .ok (.invokevirtual 44, 3) := by decide +kernel
theorem dW_bars_10 : decode b_W_bars 10 = .ok (.ifCond .eq 7, 3) := by decide +kernel
theorem dW_bars_13 : decode b_W_bars 13 = .ok (.lconst 1, 1) := by decide +kernel
theorem dW_bars_14 : decode b_W_bars 14 = .ok (.goto 4, 3) := by decide +kernel
theorem dW_bars_17 : decode b_W_bars 17 = .ok (.lconst 0, 1) := by decide +kernel
theorem dW_bars_18 : decode b_W_bars 18 = .ok (.lastore, 1) := by decide +kernel
theorem dW_bars_19 : decode b_W_bars 19 = .ok (.goto 7, 3) := by decide +kernel
theorem dW_bars_22 : decode b_W_bars 22 = .ok (.astore 5, 2) := by decide +kernel
theorem dW_bars_24 : decode b_W_bars 24 = .ok (.iconst 1, 1) := by decide +kernel
theorem dW_bars_25 : decode b_W_bars 25 = .ok (.ireturn, 1) := by decide +kernel
theorem dW_bars_26 : decode b_W_bars 26 = .ok (.iconst 0, 1) := by decide +kernel
theorem dW_bars_27 : decode b_W_bars 27 = .ok (.ireturn, 1) := by decide +kernel
theorem dW_clip_0 : decode b_W_clip 0 = .ok (.aload_n 2, 1) := by decide +kernel
theorem dW_clip_1 : decode b_W_clip 1 = .ok (.iconst 0, 1) := by decide +kernel
theorem dW_clip_2 : decode b_W_clip 2 = .ok (.aload_n 0, 1) := by decide +kernel
theorem dW_clip_3 : decode b_W_clip 3 = .ok (.iload_n 1, 1) := by decide +kernel
theorem dW_clip_4 : decode b_W_clip 4 = .ok (.invokevirtual 48, 3) := by decide +kernel
theorem dW_clip_7 : decode b_W_clip 7 = .ok (.i2l, 1) := by decide +kernel
theorem dW_clip_8 : decode b_W_clip 8 = .ok (.lastore, 1) := by decide +kernel
theorem dW_clip_9 : decode b_W_clip 9 = .ok (.goto 9, 3) := by decide +kernel
theorem dW_clip_12 : decode b_W_clip 12 = .ok (.astore_n 3, 1) := by decide +kernel
theorem dW_clip_13 : decode b_W_clip 13 = .ok (.iconst 1, 1) := by decide +kernel
theorem dW_clip_14 : decode b_W_clip 14 = .ok (.ireturn, 1) := by decide +kernel
theorem dW_clip_15 : decode b_W_clip 15 = .ok (.astore_n 3, 1) := by decide +kernel
theorem dW_clip_16 : decode b_W_clip 16 = .ok (.iconst 2, 1) := by decide +kernel
theorem dW_clip_17 : decode b_W_clip 17 = .ok (.ireturn, 1) := by decide +kernel
theorem dW_clip_18 : decode b_W_clip 18 = .ok (.iconst 0, 1) := by decide +kernel
theorem dW_clip_19 : decode b_W_clip 19 = .ok (.ireturn, 1) := by decide +kernel
theorem dW_at_0 : decode b_W_at 0 = .ok (.aload_n 3, 1) := by decide +kernel
theorem dW_at_1 : decode b_W_at 1 = .ok (.iconst 0, 1) := by decide +kernel
theorem dW_at_2 : decode b_W_at 2 = .ok (.aload_n 0, 1) := by decide +kernel
theorem dW_at_3 : decode b_W_at 3 = .ok (.iload_n 1, 1) := by decide +kernel
theorem dW_at_4 : decode b_W_at 4 = .ok (.iload_n 2, 1) := by decide +kernel
theorem dW_at_5 : decode b_W_at 5 = .ok (.invokevirtual 51, 3) := by decide +kernel
theorem dW_at_8 : decode b_W_at 8 = .ok (.i2l, 1) := by decide +kernel
theorem dW_at_9 : decode b_W_at 9 = .ok (.lastore, 1) := by decide +kernel
theorem dW_at_10 : decode b_W_at 10 = .ok (.goto 11, 3) := by decide +kernel
theorem dW_at_13 : decode b_W_at 13 = .ok (.astore 4, 2) := by decide +kernel
theorem dW_at_15 : decode b_W_at 15 = .ok (.iconst 1, 1) := by decide +kernel
theorem dW_at_16 : decode b_W_at 16 = .ok (.ireturn, 1) := by decide +kernel
theorem dW_at_17 : decode b_W_at 17 = .ok (.astore 4, 2) := by decide +kernel
theorem dW_at_19 : decode b_W_at 19 = .ok (.iconst 2, 1) := by decide +kernel
theorem dW_at_20 : decode b_W_at 20 = .ok (.ireturn, 1) := by decide +kernel
theorem dW_at_21 : decode b_W_at 21 = .ok (.iconst 0, 1) := by decide +kernel
theorem dW_at_22 : decode b_W_at 22 = .ok (.ireturn, 1) := by decide +kernel
theorem dW_clipped_0 : decode b_W_clipped 0 = .ok (.aload_n 2, 1) := by decide +kernel
theorem dW_clipped_1 : decode b_W_clipped 1 = .ok (.iconst 0, 1) := by decide +kernel
theorem dW_clipped_2 : decode b_W_clipped 2 = .ok (.aload_n 0, 1) := by decide +kernel
theorem dW_clipped_3 : decode b_W_clipped 3 = .ok (.iload_n 1, 1) := by decide +kernel
theorem dW_clipped_4 : decode b_W_clipped 4 = .ok (.invokevirtual 54, 3) := by decide +kernel
theorem dW_clipped_7 : decode b_W_clipped 7 = .ok (.i2l, 1) := by decide +kernel
theorem dW_clipped_8 : decode b_W_clipped 8 = .ok (.lastore, 1) := by decide +kernel
theorem dW_clipped_9 : decode b_W_clipped 9 = .ok (.goto 9, 3) := by decide +kernel
theorem dW_clipped_12 : decode b_W_clipped 12 = .ok (.astore_n 3, 1) := by decide +kernel
theorem dW_clipped_13 : decode b_W_clipped 13 = .ok (.iconst 1, 1) := by decide +kernel
theorem dW_clipped_14 : decode b_W_clipped 14 = .ok (.ireturn, 1) := by decide +kernel
theorem dW_clipped_15 : decode b_W_clipped 15 = .ok (.astore_n 3, 1) := by decide +kernel
theorem dW_clipped_16 : decode b_W_clipped 16 = .ok (.iconst 2, 1) := by decide +kernel
theorem dW_clipped_17 : decode b_W_clipped 17 = .ok (.ireturn, 1) := by decide +kernel
theorem dW_clipped_18 : decode b_W_clipped 18 = .ok (.iconst 0, 1) := by decide +kernel
theorem dW_clipped_19 : decode b_W_clipped 19 = .ok (.ireturn, 1) := by decide +kernel
theorem dW_shrink_0 : decode b_W_shrink 0 = .ok (.aload 4, 2) := by decide +kernel
theorem dW_shrink_2 : decode b_W_shrink 2 = .ok (.iconst 0, 1) := by decide +kernel
theorem dW_shrink_3 : decode b_W_shrink 3 = .ok (.aload_n 0, 1) := by decide +kernel
theorem dW_shrink_4 : decode b_W_shrink 4 = .ok (.iload_n 1, 1) := by decide +kernel
theorem dW_shrink_5 : decode b_W_shrink 5 = .ok (.iload_n 2, 1) := by decide +kernel
theorem dW_shrink_6 : decode b_W_shrink 6 = .ok (.iload_n 3, 1) := by decide +kernel
theorem dW_shrink_7 : decode b_W_shrink 7 = .ok (.invokevirtual 57, 3) := by decide +kernel
theorem dW_shrink_10 : decode b_W_shrink 10 = .ok (.i2l, 1) := by decide +kernel
theorem dW_shrink_11 : decode b_W_shrink 11 = .ok (.lastore, 1) := by decide +kernel
theorem dW_shrink_12 : decode b_W_shrink 12 = .ok (.goto 11, 3) := by decide +kernel
theorem dW_shrink_15 : decode b_W_shrink 15 = .ok (.astore 5, 2) := by decide +kernel
theorem dW_shrink_17 : decode b_W_shrink 17 = .ok (.iconst 1, 1) := by decide +kernel
theorem dW_shrink_18 : decode b_W_shrink 18 = .ok (.ireturn, 1) := by decide +kernel
theorem dW_shrink_19 : decode b_W_shrink 19 = .ok (.astore 5, 2) := by decide +kernel
theorem dW_shrink_21 : decode b_W_shrink 21 = .ok (.iconst 2, 1) := by decide +kernel
theorem dW_shrink_22 : decode b_W_shrink 22 = .ok (.ireturn, 1) := by decide +kernel
theorem dW_shrink_23 : decode b_W_shrink 23 = .ok (.iconst 0, 1) := by decide +kernel
theorem dW_shrink_24 : decode b_W_shrink 24 = .ok (.ireturn, 1) := by decide +kernel
theorem dW_row_0 : decode b_W_row 0 = .ok (.aload_n 3, 1) := by decide +kernel
theorem dW_row_1 : decode b_W_row 1 = .ok (.iconst 0, 1) := by decide +kernel
theorem dW_row_2 : decode b_W_row 2 = .ok (.aload_n 0, 1) := by decide +kernel
theorem dW_row_3 : decode b_W_row 3 = .ok (.iload_n 1, 1) := by decide +kernel
theorem dW_row_4 : decode b_W_row 4 = .ok (.iload_n 2, 1) := by decide +kernel
theorem dW_row_5 : decode b_W_row 5 = .ok (.invokevirtual 60, 3) := by decide +kernel
theorem dW_row_8 : decode b_W_row 8 = .ok (.ifCond .eq 7, 3) := by decide +kernel
theorem dW_row_11 : decode b_W_row 11 = .ok (.lconst 1, 1) := by decide +kernel
theorem dW_row_12 : decode b_W_row 12 = .ok (.goto 4, 3) := by decide +kernel
theorem dW_row_15 : decode b_W_row 15 = .ok (.lconst 0, 1) := by decide +kernel
theorem dW_row_16 : decode b_W_row 16 = .ok (.lastore, 1) := by decide +kernel
theorem dW_row_17 : decode b_W_row 17 = .ok (.goto 7, 3) := by decide +kernel
theorem dW_row_20 : decode b_W_row 20 = .ok (.astore 4, 2) := by decide +kernel
theorem dW_row_22 : decode b_W_row 22 = .ok (.iconst 1, 1) := by decide +kernel
theorem dW_row_23 : decode b_W_row 23 = .ok (.ireturn, 1) := by decide +kernel
theorem dW_row_24 : decode b_W_row 24 = .ok (.iconst 0, 1) := by decide +kernel
theorem dW_row_25 : decode b_W_row 25 = .ok (.ireturn, 1) := by decide +kernel
theorem dW_knife_0 : decode b_W_knife 0 = .ok (.aload_n 2, 1) := by decide +kernel
theorem dW_knife_1 : decode b_W_knife 1 = .ok (.iconst 0, 1) := by decide +kernel
theorem dW_knife_2 : decode b_W_knife 2 = .ok (.aload_n 0, 1) := by decide +kernel
theorem dW_knife_3 : decode b_W_knife 3 = .ok (.iload_n 1, 1) := by decide +kernel
theorem dW_knife_4 : decode b_W_knife 4 = .ok (.invokevirtual 64, 3) := by decide +kernel
theorem dW_knife_7 : decode b_W_knife 7 = .ok (.i2l, 1) := by decide +kernel
theorem dW_knife_8 : decode b_W_knife 8 = .ok (.lastore, 1) := by decide +kernel
theorem dW_knife_9 : decode b_W_knife 9 = .ok (.goto 6, 3) := by decide +kernel
theorem dW_knife_12 : decode b_W_knife 12 = .ok (.astore_n 3, 1) := by decide +kernel
theorem dW_knife_13 : decode b_W_knife 13 = .ok (.iconst 1, 1) := by decide +kernel
theorem dW_knife_14 : decode b_W_knife 14 = .ok (.ireturn, 1) := by decide +kernel
theorem dW_knife_15 : decode b_W_knife 15 = .ok (.iconst 0, 1) := by decide +kernel
theorem dW_knife_16 : decode b_W_knife 16 = .ok (.ireturn, 1) := by decide +kernel
end
section
theorem gV {cx cy : Cond} {own C : String} {idx : Nat} {y : MethodName} (h1 : Cond.methodLink own idx y ∈ gG) (h2 : Cond.instanceMethod y ∈ gG) (h3 : Cond.selects C y y ∈ gG) (h4 : Cond.initialized C ∈ gG) (hc : cy ∈ gG) : GoodIn (cx :: gG) (wsV own idx C y (cy :: gG)) := by
  have key : ∀ w ∈ wsV own idx C y (cy :: gG), w ∈ gG := by
    intro w hw
    unfold wsV at hw
    simp only [List.cons_append, List.nil_append, List.mem_cons] at hw
    rcases hw with rfl | rfl | rfl | rfl | rfl | hw
    · exact h1
    · exact h2
    · exact h3
    · exact h4
    · exact hc
    · exact hw
  exact fun w hw => ⟨gG_in (key w hw), good_of_word (List.mem_filter.mp (key w hw)).2⟩
theorem gS {cx cy : Cond} {own : String} {idx : Nat} {y : MethodName} (h1 : Cond.methodLink own idx y ∈ gG) (h2 : Cond.static y ∈ gG) (h4 : Cond.initialized own ∈ gG) (hc : cy ∈ gG) : GoodIn (cx :: gG) (wsS own idx y (cy :: gG)) := by
  have key : ∀ w ∈ wsS own idx y (cy :: gG), w ∈ gG := by
    intro w hw
    unfold wsS at hw
    simp only [List.cons_append, List.nil_append, List.mem_cons] at hw
    rcases hw with rfl | rfl | rfl | rfl | hw
    · exact h1
    · exact h2
    · exact h4
    · exact hc
    · exact hw
  exact fun w hw => ⟨gG_in (key w hw), good_of_word (List.mem_filter.mp (key w hw)).2⟩
set_option maxRecDepth 20000 in
theorem mw_1 : Jvm.Cond.initialized "PeelRibbons" ∈ gG := gG_of (List.mem_of_getElem? (i := 26) rfl) rfl
set_option maxRecDepth 20000 in
theorem mw_2 : Jvm.Cond.initialized "PeelRibbons$Slices" ∈ gG := gG_of (List.mem_of_getElem? (i := 27) rfl) rfl
set_option maxRecDepth 20000 in
theorem mw_3 : Jvm.Cond.initialized "java/lang/Math" ∈ gG := gG_of (List.mem_of_getElem? (i := 28) rfl) rfl
set_option maxRecDepth 20000 in
theorem mw_4 : Jvm.Cond.initialized "PeelRibbons$Axes" ∈ gG := gG_of (List.mem_of_getElem? (i := 29) rfl) rfl
set_option maxRecDepth 20000 in
theorem mw_5 : Jvm.Cond.initialized "PeelRibbons$Ribbon" ∈ gG := gG_of (List.mem_of_getElem? (i := 30) rfl) rfl
set_option maxRecDepth 20000 in
theorem mw_6 : Jvm.Cond.initialized "PeelRibbons$Faults" ∈ gG := gG_of (List.mem_of_getElem? (i := 31) rfl) rfl
set_option maxRecDepth 20000 in
theorem mw_7 : Jvm.Cond.initialized "PeelRibbons$Leaves" ∈ gG := gG_of (List.mem_of_getElem? (i := 32) rfl) rfl
set_option maxRecDepth 20000 in
theorem mw_8 : Jvm.Cond.initialized "PeelRibbons$Clipping" ∈ gG := gG_of (List.mem_of_getElem? (i := 33) rfl) rfl
set_option maxRecDepth 20000 in
theorem mw_9 : Jvm.Cond.initialized "PeelRibbons$KnifeRows" ∈ gG := gG_of (List.mem_of_getElem? (i := 34) rfl) rfl
set_option maxRecDepth 20000 in
theorem mw_30 : Jvm.Cond.methodLink "PeelRibbons" (229 : Nat) ({ cls := "java/lang/Math", name := "min", desc := "(II)I" } : Jvm.MethodName) ∈ gG := gG_of (List.mem_of_getElem? (i := 55) rfl) rfl
set_option maxRecDepth 20000 in
theorem mw_31 : Jvm.Cond.static ({ cls := "java/lang/Math", name := "min", desc := "(II)I" } : Jvm.MethodName) ∈ gG := gG_of (List.mem_of_getElem? (i := 56) rfl) rfl
set_option maxRecDepth 20000 in
theorem mw_33 : Jvm.Cond.methodLink "PeelRibbons" (234 : Nat) ({ cls := "java/lang/Math", name := "max", desc := "(II)I" } : Jvm.MethodName) ∈ gG := gG_of (List.mem_of_getElem? (i := 58) rfl) rfl
set_option maxRecDepth 20000 in
theorem mw_34 : Jvm.Cond.static ({ cls := "java/lang/Math", name := "max", desc := "(II)I" } : Jvm.MethodName) ∈ gG := gG_of (List.mem_of_getElem? (i := 59) rfl) rfl
set_option maxRecDepth 20000 in
theorem mw_41 : Jvm.Cond.fieldLink "PeelRibbons$Slices" (7 : Nat) "PeelRibbons$Slices" "count" "I" ∈ gG := gG_of (List.mem_of_getElem? (i := 66) rfl) rfl
set_option maxRecDepth 20000 in
theorem mw_42 : Jvm.Cond.fieldLink "PeelRibbons$Slices" (13 : Nat) "PeelRibbons$Slices" "side" "I" ∈ gG := gG_of (List.mem_of_getElem? (i := 67) rfl) rfl
set_option maxRecDepth 20000 in
theorem mw_43 : Jvm.Cond.fieldLink "PeelRibbons$Slices" (22 : Nat) "PeelRibbons$Slices" "parts" "I" ∈ gG := gG_of (List.mem_of_getElem? (i := 68) rfl) rfl
set_option maxRecDepth 20000 in
theorem mw_44 : Jvm.Cond.fieldLink "PeelRibbons$Slices" (25 : Nat) "PeelRibbons$Slices" "reach" "I" ∈ gG := gG_of (List.mem_of_getElem? (i := 69) rfl) rfl
set_option maxRecDepth 20000 in
theorem mw_45 : Jvm.Cond.fieldLink "PeelRibbons$Slices" (28 : Nat) "PeelRibbons$Slices" "in" "[Z" ∈ gG := gG_of (List.mem_of_getElem? (i := 70) rfl) rfl
set_option maxRecDepth 20000 in
theorem mw_46 : Jvm.Cond.fieldLink "PeelRibbons$Slices" (32 : Nat) "PeelRibbons$Slices" "nearest" "[I" ∈ gG := gG_of (List.mem_of_getElem? (i := 71) rfl) rfl
set_option maxRecDepth 20000 in
theorem mw_47 : Jvm.Cond.fieldLink "PeelRibbons$Slices" (36 : Nat) "PeelRibbons$Slices" "isStale" "[Z" ∈ gG := gG_of (List.mem_of_getElem? (i := 72) rfl) rfl
set_option maxRecDepth 20000 in
theorem mw_48 : Jvm.Cond.fieldLink "PeelRibbons$Slices" (39 : Nat) "PeelRibbons$Slices" "nearestInColumn" "[I" ∈ gG := gG_of (List.mem_of_getElem? (i := 73) rfl) rfl
set_option maxRecDepth 20000 in
theorem mw_74 : Jvm.Cond.fieldLink "PeelRibbons$Axes" (17 : Nat) "PeelRibbons$Axes" "slices" "LPeelRibbons$Slices;" ∈ gG := gG_of (List.mem_of_getElem? (i := 99) rfl) rfl
set_option maxRecDepth 20000 in
theorem mw_75 : Jvm.Cond.fieldLink "PeelRibbons$Axes" (7 : Nat) "PeelRibbons$Axes" "numbers" "[I" ∈ gG := gG_of (List.mem_of_getElem? (i := 100) rfl) rfl
set_option maxRecDepth 20000 in
theorem mw_76 : Jvm.Cond.fieldLink "PeelRibbons$Axes" (24 : Nat) "PeelRibbons$Axes" "room" "I" ∈ gG := gG_of (List.mem_of_getElem? (i := 101) rfl) rfl
set_option maxRecDepth 20000 in
theorem mw_77 : Jvm.Cond.fieldLink "PeelRibbons$Axes" (13 : Nat) "PeelRibbons$Axes" "isStale" "Z" ∈ gG := gG_of (List.mem_of_getElem? (i := 102) rfl) rfl
set_option maxRecDepth 20000 in
theorem mw_93 : Jvm.Cond.fieldLink "PeelRibbons$Ribbon" (27 : Nat) "PeelRibbons$Ribbon" "isPeeled" "Z" ∈ gG := gG_of (List.mem_of_getElem? (i := 118) rfl) rfl
set_option maxRecDepth 20000 in
theorem mw_94 : Jvm.Cond.fieldLink "PeelRibbons$Ribbon" (15 : Nat) "PeelRibbons$Ribbon" "radius" "I" ∈ gG := gG_of (List.mem_of_getElem? (i := 119) rfl) rfl
set_option maxRecDepth 20000 in
theorem mw_95 : Jvm.Cond.fieldLink "PeelRibbons$Ribbon" (9 : Nat) "PeelRibbons$Ribbon" "thick" "I" ∈ gG := gG_of (List.mem_of_getElem? (i := 120) rfl) rfl
set_option maxRecDepth 20000 in
theorem mw_96 : Jvm.Cond.fieldLink "PeelRibbons$Ribbon" (24 : Nat) "PeelRibbons$Ribbon" "turns" "I" ∈ gG := gG_of (List.mem_of_getElem? (i := 121) rfl) rfl
set_option maxRecDepth 20000 in
theorem mw_112 : Jvm.Cond.fieldLink "PeelRibbons$Faults" (9 : Nat) "PeelRibbons$Faults" "angles" "[I" ∈ gG := gG_of (List.mem_of_getElem? (i := 137) rfl) rfl
set_option maxRecDepth 20000 in
theorem mw_113 : Jvm.Cond.fieldLink "PeelRibbons$Faults" (13 : Nat) "PeelRibbons$Faults" "radii" "[I" ∈ gG := gG_of (List.mem_of_getElem? (i := 138) rfl) rfl
set_option maxRecDepth 20000 in
theorem mw_114 : Jvm.Cond.fieldLink "PeelRibbons$Faults" (16 : Nat) "PeelRibbons$Faults" "kinds" "[I" ∈ gG := gG_of (List.mem_of_getElem? (i := 139) rfl) rfl
set_option maxRecDepth 20000 in
theorem mw_115 : Jvm.Cond.fieldLink "PeelRibbons$Faults" (19 : Nat) "PeelRibbons$Faults" "count" "I" ∈ gG := gG_of (List.mem_of_getElem? (i := 140) rfl) rfl
set_option maxRecDepth 20000 in
theorem mw_131 : Jvm.Cond.fieldLink "PeelRibbons$Leaves" (9 : Nat) "PeelRibbons$Leaves" "widths" "[I" ∈ gG := gG_of (List.mem_of_getElem? (i := 156) rfl) rfl
set_option maxRecDepth 20000 in
theorem mw_132 : Jvm.Cond.fieldLink "PeelRibbons$Leaves" (13 : Nat) "PeelRibbons$Leaves" "worths" "[I" ∈ gG := gG_of (List.mem_of_getElem? (i := 157) rfl) rfl
set_option maxRecDepth 20000 in
theorem mw_133 : Jvm.Cond.fieldLink "PeelRibbons$Leaves" (16 : Nat) "PeelRibbons$Leaves" "barredBits" "[I" ∈ gG := gG_of (List.mem_of_getElem? (i := 158) rfl) rfl
set_option maxRecDepth 20000 in
theorem mw_134 : Jvm.Cond.fieldLink "PeelRibbons$Leaves" (19 : Nat) "PeelRibbons$Leaves" "count" "I" ∈ gG := gG_of (List.mem_of_getElem? (i := 159) rfl) rfl
set_option maxRecDepth 20000 in
theorem mw_150 : Jvm.Cond.fieldLink "PeelRibbons$Clipping" (11 : Nat) "PeelRibbons$Clipping" "kindBitsAt" "[I" ∈ gG := gG_of (List.mem_of_getElem? (i := 175) rfl) rfl
set_option maxRecDepth 20000 in
theorem mw_151 : Jvm.Cond.fieldLink "PeelRibbons$Clipping" (15 : Nat) "PeelRibbons$Clipping" "bestFrom" "[J" ∈ gG := gG_of (List.mem_of_getElem? (i := 176) rfl) rfl
set_option maxRecDepth 20000 in
theorem mw_152 : Jvm.Cond.fieldLink "PeelRibbons$Clipping" (19 : Nat) "PeelRibbons$Clipping" "choiceAt" "[I" ∈ gG := gG_of (List.mem_of_getElem? (i := 177) rfl) rfl
set_option maxRecDepth 20000 in
theorem mw_153 : Jvm.Cond.fieldLink "PeelRibbons$Clipping" (22 : Nat) "PeelRibbons$Clipping" "firstSteps" "[I" ∈ gG := gG_of (List.mem_of_getElem? (i := 178) rfl) rfl
set_option maxRecDepth 20000 in
theorem mw_154 : Jvm.Cond.fieldLink "PeelRibbons$Clipping" (27 : Nat) "PeelRibbons$Clipping" "clearUntil" "[I" ∈ gG := gG_of (List.mem_of_getElem? (i := 179) rfl) rfl
set_option maxRecDepth 20000 in
theorem mw_155 : Jvm.Cond.fieldLink "PeelRibbons$Clipping" (30 : Nat) "PeelRibbons$Clipping" "isDone" "Z" ∈ gG := gG_of (List.mem_of_getElem? (i := 180) rfl) rfl
set_option maxRecDepth 20000 in
theorem mw_156 : Jvm.Cond.fieldLink "PeelRibbons$Clipping" (44 : Nat) "PeelRibbons$Clipping" "steps" "I" ∈ gG := gG_of (List.mem_of_getElem? (i := 181) rfl) rfl
set_option maxRecDepth 20000 in
theorem mw_157 : Jvm.Cond.fieldLink "PeelRibbons$Clipping" (34 : Nat) "PeelRibbons$Clipping" "count" "I" ∈ gG := gG_of (List.mem_of_getElem? (i := 182) rfl) rfl
set_option maxRecDepth 20000 in
theorem mw_158 : Jvm.Cond.fieldLink "PeelRibbons$Clipping" (38 : Nat) "PeelRibbons$Clipping" "worth" "I" ∈ gG := gG_of (List.mem_of_getElem? (i := 183) rfl) rfl
set_option maxRecDepth 20000 in
theorem mw_159 : Jvm.Cond.fieldLink "PeelRibbons$Clipping" (41 : Nat) "PeelRibbons$Clipping" "waste" "I" ∈ gG := gG_of (List.mem_of_getElem? (i := 184) rfl) rfl
set_option maxRecDepth 20000 in
theorem mw_188 : Jvm.Cond.fieldLink "PeelRibbons$KnifeRows" (11 : Nat) "PeelRibbons$KnifeRows" "radii" "[I" ∈ gG := gG_of (List.mem_of_getElem? (i := 213) rfl) rfl
set_option maxRecDepth 20000 in
theorem mw_189 : Jvm.Cond.fieldLink "PeelRibbons$KnifeRows" (15 : Nat) "PeelRibbons$KnifeRows" "angles" "[I" ∈ gG := gG_of (List.mem_of_getElem? (i := 214) rfl) rfl
set_option maxRecDepth 20000 in
theorem mw_190 : Jvm.Cond.fieldLink "PeelRibbons$KnifeRows" (18 : Nat) "PeelRibbons$KnifeRows" "count" "I" ∈ gG := gG_of (List.mem_of_getElem? (i := 215) rfl) rfl
set_option maxRecDepth 20000 in
theorem mw_198 : Jvm.Cond.fieldLink "PeelRibbons" (18 : Nat) "PeelRibbons" "slices" "LPeelRibbons$Slices;" ∈ gG := gG_of (List.mem_of_getElem? (i := 223) rfl) rfl
set_option maxRecDepth 20000 in
theorem mw_199 : Jvm.Cond.fieldLink "PeelRibbons" (27 : Nat) "PeelRibbons" "axes" "LPeelRibbons$Axes;" ∈ gG := gG_of (List.mem_of_getElem? (i := 224) rfl) rfl
set_option maxRecDepth 20000 in
theorem mw_200 : Jvm.Cond.fieldLink "PeelRibbons" (34 : Nat) "PeelRibbons" "ribbon" "LPeelRibbons$Ribbon;" ∈ gG := gG_of (List.mem_of_getElem? (i := 225) rfl) rfl
set_option maxRecDepth 20000 in
theorem mw_201 : Jvm.Cond.fieldLink "PeelRibbons" (41 : Nat) "PeelRibbons" "faults" "LPeelRibbons$Faults;" ∈ gG := gG_of (List.mem_of_getElem? (i := 226) rfl) rfl
set_option maxRecDepth 20000 in
theorem mw_202 : Jvm.Cond.fieldLink "PeelRibbons" (48 : Nat) "PeelRibbons" "leaves" "LPeelRibbons$Leaves;" ∈ gG := gG_of (List.mem_of_getElem? (i := 227) rfl) rfl
set_option maxRecDepth 20000 in
theorem mw_203 : Jvm.Cond.fieldLink "PeelRibbons" (55 : Nat) "PeelRibbons" "clipping" "LPeelRibbons$Clipping;" ∈ gG := gG_of (List.mem_of_getElem? (i := 228) rfl) rfl
set_option maxRecDepth 20000 in
theorem mw_204 : Jvm.Cond.fieldLink "PeelRibbons" (62 : Nat) "PeelRibbons" "knifeRows" "LPeelRibbons$KnifeRows;" ∈ gG := gG_of (List.mem_of_getElem? (i := 229) rfl) rfl
set_option maxRecDepth 20000 in
theorem mw_224 : Jvm.Cond.methodLink "PeelRibbons" (86 : Nat) ({ cls := "PeelRibbons$Axes", name := "greatestRoom", desc := "()I" } : Jvm.MethodName) ∈ gG := gG_of (List.mem_of_getElem? (i := 249) rfl) rfl
set_option maxRecDepth 20000 in
theorem mw_225 : Jvm.Cond.instanceMethod ({ cls := "PeelRibbons$Axes", name := "greatestRoom", desc := "()I" } : Jvm.MethodName) ∈ gG := gG_of (List.mem_of_getElem? (i := 250) rfl) rfl
set_option maxRecDepth 20000 in
theorem mw_226 : Jvm.Cond.selects "PeelRibbons$Axes" ({ cls := "PeelRibbons$Axes", name := "greatestRoom", desc := "()I" } : Jvm.MethodName) ({ cls := "PeelRibbons$Axes", name := "greatestRoom", desc := "()I" } : Jvm.MethodName) ∈ gG := gG_of (List.mem_of_getElem? (i := 251) rfl) rfl
set_option maxRecDepth 20000 in
theorem mw_228 : Jvm.Cond.methodLink "PeelRibbons$Axes" (21 : Nat) ({ cls := "PeelRibbons$Axes", name := "seekIfStale", desc := "()V" } : Jvm.MethodName) ∈ gG := gG_of (List.mem_of_getElem? (i := 253) rfl) rfl
set_option maxRecDepth 20000 in
theorem mw_230 : Jvm.Cond.instanceMethod ({ cls := "PeelRibbons$Axes", name := "seekIfStale", desc := "()V" } : Jvm.MethodName) ∈ gG := gG_of (List.mem_of_getElem? (i := 255) rfl) rfl
set_option maxRecDepth 20000 in
theorem mw_232 : Jvm.Cond.methodLink "PeelRibbons$Axes" (61 : Nat) ({ cls := "PeelRibbons$Axes", name := "seek", desc := "()V" } : Jvm.MethodName) ∈ gG := gG_of (List.mem_of_getElem? (i := 257) rfl) rfl
set_option maxRecDepth 20000 in
theorem mw_234 : Jvm.Cond.instanceMethod ({ cls := "PeelRibbons$Axes", name := "seek", desc := "()V" } : Jvm.MethodName) ∈ gG := gG_of (List.mem_of_getElem? (i := 259) rfl) rfl
set_option maxRecDepth 20000 in
theorem mw_236 : Jvm.Cond.methodLink "PeelRibbons$Axes" (64 : Nat) ({ cls := "PeelRibbons$Axes", name := "keep", desc := "(IIIII)V" } : Jvm.MethodName) ∈ gG := gG_of (List.mem_of_getElem? (i := 261) rfl) rfl
set_option maxRecDepth 20000 in
theorem mw_238 : Jvm.Cond.instanceMethod ({ cls := "PeelRibbons$Axes", name := "keep", desc := "(IIIII)V" } : Jvm.MethodName) ∈ gG := gG_of (List.mem_of_getElem? (i := 263) rfl) rfl
set_option maxRecDepth 20000 in
theorem mw_240 : Jvm.Cond.methodLink "PeelRibbons$Axes" (68 : Nat) ({ cls := "PeelRibbons$Slices", name := "side", desc := "()I" } : Jvm.MethodName) ∈ gG := gG_of (List.mem_of_getElem? (i := 265) rfl) rfl
set_option maxRecDepth 20000 in
theorem mw_241 : Jvm.Cond.instanceMethod ({ cls := "PeelRibbons$Slices", name := "side", desc := "()I" } : Jvm.MethodName) ∈ gG := gG_of (List.mem_of_getElem? (i := 266) rfl) rfl
set_option maxRecDepth 20000 in
theorem mw_242 : Jvm.Cond.selects "PeelRibbons$Slices" ({ cls := "PeelRibbons$Slices", name := "side", desc := "()I" } : Jvm.MethodName) ({ cls := "PeelRibbons$Slices", name := "side", desc := "()I" } : Jvm.MethodName) ∈ gG := gG_of (List.mem_of_getElem? (i := 267) rfl) rfl
set_option maxRecDepth 20000 in
theorem mw_244 : Jvm.Cond.methodLink "PeelRibbons$Axes" (32 : Nat) ({ cls := "PeelRibbons$Slices", name := "parts", desc := "()I" } : Jvm.MethodName) ∈ gG := gG_of (List.mem_of_getElem? (i := 269) rfl) rfl
set_option maxRecDepth 20000 in
theorem mw_245 : Jvm.Cond.instanceMethod ({ cls := "PeelRibbons$Slices", name := "parts", desc := "()I" } : Jvm.MethodName) ∈ gG := gG_of (List.mem_of_getElem? (i := 270) rfl) rfl
set_option maxRecDepth 20000 in
theorem mw_246 : Jvm.Cond.selects "PeelRibbons$Slices" ({ cls := "PeelRibbons$Slices", name := "parts", desc := "()I" } : Jvm.MethodName) ({ cls := "PeelRibbons$Slices", name := "parts", desc := "()I" } : Jvm.MethodName) ∈ gG := gG_of (List.mem_of_getElem? (i := 271) rfl) rfl
set_option maxRecDepth 20000 in
theorem mw_248 : Jvm.Cond.methodLink "PeelRibbons$Axes" (52 : Nat) ({ cls := "PeelRibbons$Slices", name := "nearestAt", desc := "(III)I" } : Jvm.MethodName) ∈ gG := gG_of (List.mem_of_getElem? (i := 273) rfl) rfl
set_option maxRecDepth 20000 in
theorem mw_249 : Jvm.Cond.instanceMethod ({ cls := "PeelRibbons$Slices", name := "nearestAt", desc := "(III)I" } : Jvm.MethodName) ∈ gG := gG_of (List.mem_of_getElem? (i := 274) rfl) rfl
set_option maxRecDepth 20000 in
theorem mw_250 : Jvm.Cond.selects "PeelRibbons$Slices" ({ cls := "PeelRibbons$Slices", name := "nearestAt", desc := "(III)I" } : Jvm.MethodName) ({ cls := "PeelRibbons$Slices", name := "nearestAt", desc := "(III)I" } : Jvm.MethodName) ∈ gG := gG_of (List.mem_of_getElem? (i := 275) rfl) rfl
set_option maxRecDepth 20000 in
theorem mw_252 : Jvm.Cond.methodLink "PeelRibbons$Slices" (52 : Nat) ({ cls := "PeelRibbons$Slices", name := "measure", desc := "(I)V" } : Jvm.MethodName) ∈ gG := gG_of (List.mem_of_getElem? (i := 277) rfl) rfl
set_option maxRecDepth 20000 in
theorem mw_254 : Jvm.Cond.instanceMethod ({ cls := "PeelRibbons$Slices", name := "measure", desc := "(I)V" } : Jvm.MethodName) ∈ gG := gG_of (List.mem_of_getElem? (i := 279) rfl) rfl
set_option maxRecDepth 20000 in
theorem mw_256 : Jvm.Cond.methodLink "PeelRibbons$Slices" (56 : Nat) ({ cls := "PeelRibbons$Slices", name := "nearestInColumnOf", desc := "(III)I" } : Jvm.MethodName) ∈ gG := gG_of (List.mem_of_getElem? (i := 281) rfl) rfl
set_option maxRecDepth 20000 in
theorem mw_258 : Jvm.Cond.instanceMethod ({ cls := "PeelRibbons$Slices", name := "nearestInColumnOf", desc := "(III)I" } : Jvm.MethodName) ∈ gG := gG_of (List.mem_of_getElem? (i := 283) rfl) rfl
set_option maxRecDepth 20000 in
theorem mw_260 : Jvm.Cond.constant "PeelRibbons$Slices" (65 : Nat) (2147483647 : Int32) ∈ gG := gG_of (List.mem_of_getElem? (i := 285) rfl) rfl
set_option maxRecDepth 20000 in
theorem mw_261 : Jvm.Cond.methodLink "PeelRibbons$Slices" (66 : Nat) ({ cls := "PeelRibbons$Slices", name := "isIn", desc := "(III)Z" } : Jvm.MethodName) ∈ gG := gG_of (List.mem_of_getElem? (i := 286) rfl) rfl
set_option maxRecDepth 20000 in
theorem mw_263 : Jvm.Cond.instanceMethod ({ cls := "PeelRibbons$Slices", name := "isIn", desc := "(III)Z" } : Jvm.MethodName) ∈ gG := gG_of (List.mem_of_getElem? (i := 288) rfl) rfl
set_option maxRecDepth 20000 in
theorem mw_265 : Jvm.Cond.methodLink "PeelRibbons$Slices" (75 : Nat) ({ cls := "PeelRibbons$Slices", name := "hasCell", desc := "(III)Z" } : Jvm.MethodName) ∈ gG := gG_of (List.mem_of_getElem? (i := 290) rfl) rfl
set_option maxRecDepth 20000 in
theorem mw_266 : Jvm.Cond.instanceMethod ({ cls := "PeelRibbons$Slices", name := "hasCell", desc := "(III)Z" } : Jvm.MethodName) ∈ gG := gG_of (List.mem_of_getElem? (i := 291) rfl) rfl
set_option maxRecDepth 20000 in
theorem mw_267 : Jvm.Cond.selects "PeelRibbons$Slices" ({ cls := "PeelRibbons$Slices", name := "hasCell", desc := "(III)Z" } : Jvm.MethodName) ({ cls := "PeelRibbons$Slices", name := "hasCell", desc := "(III)Z" } : Jvm.MethodName) ∈ gG := gG_of (List.mem_of_getElem? (i := 292) rfl) rfl
set_option maxRecDepth 20000 in
theorem mw_270 : Jvm.Cond.static ({ cls := "PeelRibbons", name := "isWithin", desc := "(III)Z" } : Jvm.MethodName) ∈ gG := gG_of (List.mem_of_getElem? (i := 295) rfl) rfl
set_option maxRecDepth 20000 in
theorem mw_272 : Jvm.Cond.methodLink "PeelRibbons$Slices" (48 : Nat) ({ cls := "PeelRibbons$Slices", name := "indexOf", desc := "(III)I" } : Jvm.MethodName) ∈ gG := gG_of (List.mem_of_getElem? (i := 297) rfl) rfl
set_option maxRecDepth 20000 in
theorem mw_274 : Jvm.Cond.instanceMethod ({ cls := "PeelRibbons$Slices", name := "indexOf", desc := "(III)I" } : Jvm.MethodName) ∈ gG := gG_of (List.mem_of_getElem? (i := 299) rfl) rfl
set_option maxRecDepth 20000 in
theorem mw_276 : Jvm.Cond.methodLink "PeelRibbons$Slices" (69 : Nat) ({ cls := "PeelRibbons$Slices", name := "gap", desc := "(II)I" } : Jvm.MethodName) ∈ gG := gG_of (List.mem_of_getElem? (i := 301) rfl) rfl
set_option maxRecDepth 20000 in
theorem mw_278 : Jvm.Cond.instanceMethod ({ cls := "PeelRibbons$Slices", name := "gap", desc := "(II)I" } : Jvm.MethodName) ∈ gG := gG_of (List.mem_of_getElem? (i := 303) rfl) rfl
set_option maxRecDepth 20000 in
theorem mw_280 : Jvm.Cond.methodLink "PeelRibbons$Slices" (72 : Nat) ({ cls := "java/lang/Math", name := "min", desc := "(II)I" } : Jvm.MethodName) ∈ gG := gG_of (List.mem_of_getElem? (i := 305) rfl) rfl
set_option maxRecDepth 20000 in
theorem mw_281 : Jvm.Cond.methodLink "PeelRibbons$Slices" (59 : Nat) ({ cls := "PeelRibbons$Slices", name := "nearestOverColumns", desc := "(I)I" } : Jvm.MethodName) ∈ gG := gG_of (List.mem_of_getElem? (i := 306) rfl) rfl
set_option maxRecDepth 20000 in
theorem mw_283 : Jvm.Cond.instanceMethod ({ cls := "PeelRibbons$Slices", name := "nearestOverColumns", desc := "(I)I" } : Jvm.MethodName) ∈ gG := gG_of (List.mem_of_getElem? (i := 308) rfl) rfl
set_option maxRecDepth 20000 in
theorem mw_285 : Jvm.Cond.methodLink "PeelRibbons$Axes" (71 : Nat) ({ cls := "PeelRibbons$Axes", name := "seekFrom", desc := "(II)V" } : Jvm.MethodName) ∈ gG := gG_of (List.mem_of_getElem? (i := 310) rfl) rfl
set_option maxRecDepth 20000 in
theorem mw_287 : Jvm.Cond.instanceMethod ({ cls := "PeelRibbons$Axes", name := "seekFrom", desc := "(II)V" } : Jvm.MethodName) ∈ gG := gG_of (List.mem_of_getElem? (i := 312) rfl) rfl
set_option maxRecDepth 20000 in
theorem mw_289 : Jvm.Cond.methodLink "PeelRibbons$Axes" (38 : Nat) ({ cls := "PeelRibbons$Axes", name := "roomAbove", desc := "(IIIII)I" } : Jvm.MethodName) ∈ gG := gG_of (List.mem_of_getElem? (i := 314) rfl) rfl
set_option maxRecDepth 20000 in
theorem mw_291 : Jvm.Cond.instanceMethod ({ cls := "PeelRibbons$Axes", name := "roomAbove", desc := "(IIIII)I" } : Jvm.MethodName) ∈ gG := gG_of (List.mem_of_getElem? (i := 316) rfl) rfl
set_option maxRecDepth 20000 in
theorem mw_293 : Jvm.Cond.constant "PeelRibbons$Axes" (44 : Nat) (2147483647 : Int32) ∈ gG := gG_of (List.mem_of_getElem? (i := 318) rfl) rfl
set_option maxRecDepth 20000 in
theorem mw_294 : Jvm.Cond.methodLink "PeelRibbons$Axes" (45 : Nat) ({ cls := "PeelRibbons$Slices", name := "count", desc := "()I" } : Jvm.MethodName) ∈ gG := gG_of (List.mem_of_getElem? (i := 319) rfl) rfl
set_option maxRecDepth 20000 in
theorem mw_295 : Jvm.Cond.instanceMethod ({ cls := "PeelRibbons$Slices", name := "count", desc := "()I" } : Jvm.MethodName) ∈ gG := gG_of (List.mem_of_getElem? (i := 320) rfl) rfl
set_option maxRecDepth 20000 in
theorem mw_296 : Jvm.Cond.selects "PeelRibbons$Slices" ({ cls := "PeelRibbons$Slices", name := "count", desc := "()I" } : Jvm.MethodName) ({ cls := "PeelRibbons$Slices", name := "count", desc := "()I" } : Jvm.MethodName) ∈ gG := gG_of (List.mem_of_getElem? (i := 321) rfl) rfl
set_option maxRecDepth 20000 in
theorem mw_298 : Jvm.Cond.methodLink "PeelRibbons$Axes" (48 : Nat) ({ cls := "PeelRibbons$Axes", name := "placeAt", desc := "(III)I" } : Jvm.MethodName) ∈ gG := gG_of (List.mem_of_getElem? (i := 323) rfl) rfl
set_option maxRecDepth 20000 in
theorem mw_300 : Jvm.Cond.instanceMethod ({ cls := "PeelRibbons$Axes", name := "placeAt", desc := "(III)I" } : Jvm.MethodName) ∈ gG := gG_of (List.mem_of_getElem? (i := 325) rfl) rfl
set_option maxRecDepth 20000 in
theorem mw_302 : Jvm.Cond.methodLink "PeelRibbons$Axes" (55 : Nat) ({ cls := "java/lang/Math", name := "min", desc := "(II)I" } : Jvm.MethodName) ∈ gG := gG_of (List.mem_of_getElem? (i := 327) rfl) rfl
set_option maxRecDepth 20000 in
theorem mw_307 : Jvm.Cond.methodLink "PeelRibbons" (99 : Nat) ({ cls := "PeelRibbons$Axes", name := "greatestRadius", desc := "()I" } : Jvm.MethodName) ∈ gG := gG_of (List.mem_of_getElem? (i := 332) rfl) rfl
set_option maxRecDepth 20000 in
theorem mw_308 : Jvm.Cond.instanceMethod ({ cls := "PeelRibbons$Axes", name := "greatestRadius", desc := "()I" } : Jvm.MethodName) ∈ gG := gG_of (List.mem_of_getElem? (i := 333) rfl) rfl
set_option maxRecDepth 20000 in
theorem mw_309 : Jvm.Cond.selects "PeelRibbons$Axes" ({ cls := "PeelRibbons$Axes", name := "greatestRadius", desc := "()I" } : Jvm.MethodName) ({ cls := "PeelRibbons$Axes", name := "greatestRadius", desc := "()I" } : Jvm.MethodName) ∈ gG := gG_of (List.mem_of_getElem? (i := 334) rfl) rfl
set_option maxRecDepth 20000 in
theorem mw_311 : Jvm.Cond.methodLink "PeelRibbons$Axes" (28 : Nat) ({ cls := "PeelRibbons$Axes", name := "rootOf", desc := "(I)I" } : Jvm.MethodName) ∈ gG := gG_of (List.mem_of_getElem? (i := 336) rfl) rfl
set_option maxRecDepth 20000 in
theorem mw_312 : Jvm.Cond.static ({ cls := "PeelRibbons$Axes", name := "rootOf", desc := "(I)I" } : Jvm.MethodName) ∈ gG := gG_of (List.mem_of_getElem? (i := 337) rfl) rfl
set_option maxRecDepth 20000 in
theorem mw_325 : Jvm.Cond.methodLink "PeelRibbons" (66 : Nat) ({ cls := "PeelRibbons$Slices", name := "hasCell", desc := "(III)Z" } : Jvm.MethodName) ∈ gG := gG_of (List.mem_of_getElem? (i := 350) rfl) rfl
set_option maxRecDepth 20000 in
theorem mw_394 : Jvm.Cond.methodLink "PeelRibbons" (77 : Nat) ({ cls := "PeelRibbons$Slices", name := "tell", desc := "(IIIZ)Z" } : Jvm.MethodName) ∈ gG := gG_of (List.mem_of_getElem? (i := 419) rfl) rfl
set_option maxRecDepth 20000 in
theorem mw_395 : Jvm.Cond.instanceMethod ({ cls := "PeelRibbons$Slices", name := "tell", desc := "(IIIZ)Z" } : Jvm.MethodName) ∈ gG := gG_of (List.mem_of_getElem? (i := 420) rfl) rfl
set_option maxRecDepth 20000 in
theorem mw_396 : Jvm.Cond.selects "PeelRibbons$Slices" ({ cls := "PeelRibbons$Slices", name := "tell", desc := "(IIIZ)Z" } : Jvm.MethodName) ({ cls := "PeelRibbons$Slices", name := "tell", desc := "(IIIZ)Z" } : Jvm.MethodName) ∈ gG := gG_of (List.mem_of_getElem? (i := 421) rfl) rfl
set_option maxRecDepth 20000 in
theorem mw_398 : Jvm.Cond.methodLink "PeelRibbons" (81 : Nat) ({ cls := "PeelRibbons$Axes", name := "forget", desc := "()V" } : Jvm.MethodName) ∈ gG := gG_of (List.mem_of_getElem? (i := 423) rfl) rfl
set_option maxRecDepth 20000 in
theorem mw_399 : Jvm.Cond.instanceMethod ({ cls := "PeelRibbons$Axes", name := "forget", desc := "()V" } : Jvm.MethodName) ∈ gG := gG_of (List.mem_of_getElem? (i := 424) rfl) rfl
set_option maxRecDepth 20000 in
theorem mw_400 : Jvm.Cond.selects "PeelRibbons$Axes" ({ cls := "PeelRibbons$Axes", name := "forget", desc := "()V" } : Jvm.MethodName) ({ cls := "PeelRibbons$Axes", name := "forget", desc := "()V" } : Jvm.MethodName) ∈ gG := gG_of (List.mem_of_getElem? (i := 425) rfl) rfl
set_option maxRecDepth 20000 in
theorem mw_402 : Jvm.Cond.methodLink "PeelRibbons" (84 : Nat) ({ cls := "PeelRibbons$Ribbon", name := "forget", desc := "()V" } : Jvm.MethodName) ∈ gG := gG_of (List.mem_of_getElem? (i := 427) rfl) rfl
set_option maxRecDepth 20000 in
theorem mw_403 : Jvm.Cond.instanceMethod ({ cls := "PeelRibbons$Ribbon", name := "forget", desc := "()V" } : Jvm.MethodName) ∈ gG := gG_of (List.mem_of_getElem? (i := 428) rfl) rfl
set_option maxRecDepth 20000 in
theorem mw_404 : Jvm.Cond.selects "PeelRibbons$Ribbon" ({ cls := "PeelRibbons$Ribbon", name := "forget", desc := "()V" } : Jvm.MethodName) ({ cls := "PeelRibbons$Ribbon", name := "forget", desc := "()V" } : Jvm.MethodName) ∈ gG := gG_of (List.mem_of_getElem? (i := 429) rfl) rfl
set_option maxRecDepth 20000 in
theorem mw_406 : Jvm.Cond.methodLink "PeelRibbons" (85 : Nat) ({ cls := "PeelRibbons$Clipping", name := "forget", desc := "()V" } : Jvm.MethodName) ∈ gG := gG_of (List.mem_of_getElem? (i := 431) rfl) rfl
set_option maxRecDepth 20000 in
theorem mw_407 : Jvm.Cond.instanceMethod ({ cls := "PeelRibbons$Clipping", name := "forget", desc := "()V" } : Jvm.MethodName) ∈ gG := gG_of (List.mem_of_getElem? (i := 432) rfl) rfl
set_option maxRecDepth 20000 in
theorem mw_408 : Jvm.Cond.selects "PeelRibbons$Clipping" ({ cls := "PeelRibbons$Clipping", name := "forget", desc := "()V" } : Jvm.MethodName) ({ cls := "PeelRibbons$Clipping", name := "forget", desc := "()V" } : Jvm.MethodName) ∈ gG := gG_of (List.mem_of_getElem? (i := 433) rfl) rfl
set_option maxRecDepth 20000 in
theorem mw_417 : Jvm.Cond.methodLink "PeelRibbons" (90 : Nat) ({ cls := "PeelRibbons", name := "isWithin", desc := "(III)Z" } : Jvm.MethodName) ∈ gG := gG_of (List.mem_of_getElem? (i := 442) rfl) rfl
set_option maxRecDepth 20000 in
theorem mw_419 : Jvm.Cond.methodLink "PeelRibbons" (95 : Nat) ({ cls := "PeelRibbons$Axes", name := "number", desc := "(I)I" } : Jvm.MethodName) ∈ gG := gG_of (List.mem_of_getElem? (i := 444) rfl) rfl
set_option maxRecDepth 20000 in
theorem mw_420 : Jvm.Cond.instanceMethod ({ cls := "PeelRibbons$Axes", name := "number", desc := "(I)I" } : Jvm.MethodName) ∈ gG := gG_of (List.mem_of_getElem? (i := 445) rfl) rfl
set_option maxRecDepth 20000 in
theorem mw_421 : Jvm.Cond.selects "PeelRibbons$Axes" ({ cls := "PeelRibbons$Axes", name := "number", desc := "(I)I" } : Jvm.MethodName) ({ cls := "PeelRibbons$Axes", name := "number", desc := "(I)I" } : Jvm.MethodName) ∈ gG := gG_of (List.mem_of_getElem? (i := 446) rfl) rfl
set_option maxRecDepth 20000 in
theorem mw_430 : Jvm.Cond.methodLink "PeelRibbons" (102 : Nat) ({ cls := "PeelRibbons$Slices", name := "hasCorner", desc := "(II)Z" } : Jvm.MethodName) ∈ gG := gG_of (List.mem_of_getElem? (i := 455) rfl) rfl
set_option maxRecDepth 20000 in
theorem mw_431 : Jvm.Cond.instanceMethod ({ cls := "PeelRibbons$Slices", name := "hasCorner", desc := "(II)Z" } : Jvm.MethodName) ∈ gG := gG_of (List.mem_of_getElem? (i := 456) rfl) rfl
set_option maxRecDepth 20000 in
theorem mw_432 : Jvm.Cond.selects "PeelRibbons$Slices" ({ cls := "PeelRibbons$Slices", name := "hasCorner", desc := "(II)Z" } : Jvm.MethodName) ({ cls := "PeelRibbons$Slices", name := "hasCorner", desc := "(II)Z" } : Jvm.MethodName) ∈ gG := gG_of (List.mem_of_getElem? (i := 457) rfl) rfl
set_option maxRecDepth 20000 in
theorem mw_435 : Jvm.Cond.methodLink "PeelRibbons" (108 : Nat) ({ cls := "PeelRibbons$Axes", name := "exactRoom", desc := "(IIII)I" } : Jvm.MethodName) ∈ gG := gG_of (List.mem_of_getElem? (i := 460) rfl) rfl
set_option maxRecDepth 20000 in
theorem mw_436 : Jvm.Cond.instanceMethod ({ cls := "PeelRibbons$Axes", name := "exactRoom", desc := "(IIII)I" } : Jvm.MethodName) ∈ gG := gG_of (List.mem_of_getElem? (i := 461) rfl) rfl
set_option maxRecDepth 20000 in
theorem mw_437 : Jvm.Cond.selects "PeelRibbons$Axes" ({ cls := "PeelRibbons$Axes", name := "exactRoom", desc := "(IIII)I" } : Jvm.MethodName) ({ cls := "PeelRibbons$Axes", name := "exactRoom", desc := "(IIII)I" } : Jvm.MethodName) ∈ gG := gG_of (List.mem_of_getElem? (i := 462) rfl) rfl
set_option maxRecDepth 20000 in
theorem mw_463 : Jvm.Cond.methodLink "PeelRibbons" (117 : Nat) ({ cls := "PeelRibbons$Ribbon", name := "peelOff", desc := "(III)V" } : Jvm.MethodName) ∈ gG := gG_of (List.mem_of_getElem? (i := 488) rfl) rfl
set_option maxRecDepth 20000 in
theorem mw_464 : Jvm.Cond.instanceMethod ({ cls := "PeelRibbons$Ribbon", name := "peelOff", desc := "(III)V" } : Jvm.MethodName) ∈ gG := gG_of (List.mem_of_getElem? (i := 489) rfl) rfl
set_option maxRecDepth 20000 in
theorem mw_465 : Jvm.Cond.selects "PeelRibbons$Ribbon" ({ cls := "PeelRibbons$Ribbon", name := "peelOff", desc := "(III)V" } : Jvm.MethodName) ({ cls := "PeelRibbons$Ribbon", name := "peelOff", desc := "(III)V" } : Jvm.MethodName) ∈ gG := gG_of (List.mem_of_getElem? (i := 490) rfl) rfl
set_option maxRecDepth 20000 in
theorem mw_467 : Jvm.Cond.methodLink "PeelRibbons$Ribbon" (18 : Nat) ({ cls := "java/lang/Math", name := "max", desc := "(II)I" } : Jvm.MethodName) ∈ gG := gG_of (List.mem_of_getElem? (i := 492) rfl) rfl
set_option maxRecDepth 20000 in
theorem mw_468 : Jvm.Cond.methodLink "PeelRibbons" (121 : Nat) ({ cls := "PeelRibbons$Ribbon", name := "turns", desc := "()I" } : Jvm.MethodName) ∈ gG := gG_of (List.mem_of_getElem? (i := 493) rfl) rfl
set_option maxRecDepth 20000 in
theorem mw_469 : Jvm.Cond.instanceMethod ({ cls := "PeelRibbons$Ribbon", name := "turns", desc := "()I" } : Jvm.MethodName) ∈ gG := gG_of (List.mem_of_getElem? (i := 494) rfl) rfl
set_option maxRecDepth 20000 in
theorem mw_470 : Jvm.Cond.selects "PeelRibbons$Ribbon" ({ cls := "PeelRibbons$Ribbon", name := "turns", desc := "()I" } : Jvm.MethodName) ({ cls := "PeelRibbons$Ribbon", name := "turns", desc := "()I" } : Jvm.MethodName) ∈ gG := gG_of (List.mem_of_getElem? (i := 495) rfl) rfl
set_option maxRecDepth 20000 in
theorem mw_480 : Jvm.Cond.methodLink "PeelRibbons" (124 : Nat) ({ cls := "PeelRibbons$Ribbon", name := "isPeeled", desc := "()Z" } : Jvm.MethodName) ∈ gG := gG_of (List.mem_of_getElem? (i := 505) rfl) rfl
set_option maxRecDepth 20000 in
theorem mw_481 : Jvm.Cond.instanceMethod ({ cls := "PeelRibbons$Ribbon", name := "isPeeled", desc := "()Z" } : Jvm.MethodName) ∈ gG := gG_of (List.mem_of_getElem? (i := 506) rfl) rfl
set_option maxRecDepth 20000 in
theorem mw_482 : Jvm.Cond.selects "PeelRibbons$Ribbon" ({ cls := "PeelRibbons$Ribbon", name := "isPeeled", desc := "()Z" } : Jvm.MethodName) ({ cls := "PeelRibbons$Ribbon", name := "isPeeled", desc := "()Z" } : Jvm.MethodName) ∈ gG := gG_of (List.mem_of_getElem? (i := 507) rfl) rfl
set_option maxRecDepth 20000 in
theorem mw_501 : Jvm.Cond.methodLink "PeelRibbons" (135 : Nat) ({ cls := "PeelRibbons$Ribbon", name := "lengthBefore", desc := "(I)I" } : Jvm.MethodName) ∈ gG := gG_of (List.mem_of_getElem? (i := 526) rfl) rfl
set_option maxRecDepth 20000 in
theorem mw_502 : Jvm.Cond.instanceMethod ({ cls := "PeelRibbons$Ribbon", name := "lengthBefore", desc := "(I)I" } : Jvm.MethodName) ∈ gG := gG_of (List.mem_of_getElem? (i := 527) rfl) rfl
set_option maxRecDepth 20000 in
theorem mw_503 : Jvm.Cond.selects "PeelRibbons$Ribbon" ({ cls := "PeelRibbons$Ribbon", name := "lengthBefore", desc := "(I)I" } : Jvm.MethodName) ({ cls := "PeelRibbons$Ribbon", name := "lengthBefore", desc := "(I)I" } : Jvm.MethodName) ∈ gG := gG_of (List.mem_of_getElem? (i := 528) rfl) rfl
set_option maxRecDepth 20000 in
theorem mw_505 : Jvm.Cond.methodLink "PeelRibbons$Ribbon" (35 : Nat) ({ cls := "PeelRibbons$Ribbon", name := "roundOf", desc := "(I)I" } : Jvm.MethodName) ∈ gG := gG_of (List.mem_of_getElem? (i := 530) rfl) rfl
set_option maxRecDepth 20000 in
theorem mw_506 : Jvm.Cond.static ({ cls := "PeelRibbons$Ribbon", name := "roundOf", desc := "(I)I" } : Jvm.MethodName) ∈ gG := gG_of (List.mem_of_getElem? (i := 531) rfl) rfl
set_option maxRecDepth 20000 in
theorem mw_515 : Jvm.Cond.methodLink "PeelRibbons" (138 : Nat) ({ cls := "PeelRibbons", name := "isKind", desc := "(I)Z" } : Jvm.MethodName) ∈ gG := gG_of (List.mem_of_getElem? (i := 540) rfl) rfl
set_option maxRecDepth 20000 in
theorem mw_516 : Jvm.Cond.static ({ cls := "PeelRibbons", name := "isKind", desc := "(I)Z" } : Jvm.MethodName) ∈ gG := gG_of (List.mem_of_getElem? (i := 541) rfl) rfl
set_option maxRecDepth 20000 in
theorem mw_519 : Jvm.Cond.methodLink "PeelRibbons" (144 : Nat) ({ cls := "PeelRibbons$Faults", name := "isFull", desc := "()Z" } : Jvm.MethodName) ∈ gG := gG_of (List.mem_of_getElem? (i := 544) rfl) rfl
set_option maxRecDepth 20000 in
theorem mw_520 : Jvm.Cond.instanceMethod ({ cls := "PeelRibbons$Faults", name := "isFull", desc := "()Z" } : Jvm.MethodName) ∈ gG := gG_of (List.mem_of_getElem? (i := 545) rfl) rfl
set_option maxRecDepth 20000 in
theorem mw_521 : Jvm.Cond.selects "PeelRibbons$Faults" ({ cls := "PeelRibbons$Faults", name := "isFull", desc := "()Z" } : Jvm.MethodName) ({ cls := "PeelRibbons$Faults", name := "isFull", desc := "()Z" } : Jvm.MethodName) ∈ gG := gG_of (List.mem_of_getElem? (i := 546) rfl) rfl
set_option maxRecDepth 20000 in
theorem mw_524 : Jvm.Cond.methodLink "PeelRibbons" (149 : Nat) ({ cls := "PeelRibbons$Faults", name := "add", desc := "(III)I" } : Jvm.MethodName) ∈ gG := gG_of (List.mem_of_getElem? (i := 549) rfl) rfl
set_option maxRecDepth 20000 in
theorem mw_525 : Jvm.Cond.instanceMethod ({ cls := "PeelRibbons$Faults", name := "add", desc := "(III)I" } : Jvm.MethodName) ∈ gG := gG_of (List.mem_of_getElem? (i := 550) rfl) rfl
set_option maxRecDepth 20000 in
theorem mw_526 : Jvm.Cond.selects "PeelRibbons$Faults" ({ cls := "PeelRibbons$Faults", name := "add", desc := "(III)I" } : Jvm.MethodName) ({ cls := "PeelRibbons$Faults", name := "add", desc := "(III)I" } : Jvm.MethodName) ∈ gG := gG_of (List.mem_of_getElem? (i := 551) rfl) rfl
set_option maxRecDepth 20000 in
theorem mw_535 : Jvm.Cond.methodLink "PeelRibbons" (152 : Nat) ({ cls := "PeelRibbons$Faults", name := "has", desc := "(I)Z" } : Jvm.MethodName) ∈ gG := gG_of (List.mem_of_getElem? (i := 560) rfl) rfl
set_option maxRecDepth 20000 in
theorem mw_536 : Jvm.Cond.instanceMethod ({ cls := "PeelRibbons$Faults", name := "has", desc := "(I)Z" } : Jvm.MethodName) ∈ gG := gG_of (List.mem_of_getElem? (i := 561) rfl) rfl
set_option maxRecDepth 20000 in
theorem mw_537 : Jvm.Cond.selects "PeelRibbons$Faults" ({ cls := "PeelRibbons$Faults", name := "has", desc := "(I)Z" } : Jvm.MethodName) ({ cls := "PeelRibbons$Faults", name := "has", desc := "(I)Z" } : Jvm.MethodName) ∈ gG := gG_of (List.mem_of_getElem? (i := 562) rfl) rfl
set_option maxRecDepth 20000 in
theorem mw_541 : Jvm.Cond.methodLink "PeelRibbons" (157 : Nat) ({ cls := "PeelRibbons$Faults", name := "placeIn", desc := "(LPeelRibbons$Ribbon;I)I" } : Jvm.MethodName) ∈ gG := gG_of (List.mem_of_getElem? (i := 566) rfl) rfl
set_option maxRecDepth 20000 in
theorem mw_542 : Jvm.Cond.instanceMethod ({ cls := "PeelRibbons$Faults", name := "placeIn", desc := "(LPeelRibbons$Ribbon;I)I" } : Jvm.MethodName) ∈ gG := gG_of (List.mem_of_getElem? (i := 567) rfl) rfl
set_option maxRecDepth 20000 in
theorem mw_543 : Jvm.Cond.selects "PeelRibbons$Faults" ({ cls := "PeelRibbons$Faults", name := "placeIn", desc := "(LPeelRibbons$Ribbon;I)I" } : Jvm.MethodName) ({ cls := "PeelRibbons$Faults", name := "placeIn", desc := "(LPeelRibbons$Ribbon;I)I" } : Jvm.MethodName) ∈ gG := gG_of (List.mem_of_getElem? (i := 568) rfl) rfl
set_option maxRecDepth 20000 in
theorem mw_545 : Jvm.Cond.methodLink "PeelRibbons$Faults" (29 : Nat) ({ cls := "PeelRibbons$Ribbon", name := "placeOf", desc := "(II)I" } : Jvm.MethodName) ∈ gG := gG_of (List.mem_of_getElem? (i := 570) rfl) rfl
set_option maxRecDepth 20000 in
theorem mw_546 : Jvm.Cond.instanceMethod ({ cls := "PeelRibbons$Ribbon", name := "placeOf", desc := "(II)I" } : Jvm.MethodName) ∈ gG := gG_of (List.mem_of_getElem? (i := 571) rfl) rfl
set_option maxRecDepth 20000 in
theorem mw_547 : Jvm.Cond.selects "PeelRibbons$Ribbon" ({ cls := "PeelRibbons$Ribbon", name := "placeOf", desc := "(II)I" } : Jvm.MethodName) ({ cls := "PeelRibbons$Ribbon", name := "placeOf", desc := "(II)I" } : Jvm.MethodName) ∈ gG := gG_of (List.mem_of_getElem? (i := 572) rfl) rfl
set_option maxRecDepth 20000 in
theorem mw_549 : Jvm.Cond.methodLink "PeelRibbons$Ribbon" (31 : Nat) ({ cls := "PeelRibbons$Ribbon", name := "lengthBefore", desc := "(I)I" } : Jvm.MethodName) ∈ gG := gG_of (List.mem_of_getElem? (i := 574) rfl) rfl
set_option maxRecDepth 20000 in
theorem mw_557 : Jvm.Cond.constant "PeelRibbons" (161 : Nat) (1000000 : Int32) ∈ gG := gG_of (List.mem_of_getElem? (i := 582) rfl) rfl
set_option maxRecDepth 20000 in
theorem mw_559 : Jvm.Cond.methodLink "PeelRibbons" (164 : Nat) ({ cls := "PeelRibbons$Leaves", name := "isFull", desc := "()Z" } : Jvm.MethodName) ∈ gG := gG_of (List.mem_of_getElem? (i := 584) rfl) rfl
set_option maxRecDepth 20000 in
theorem mw_560 : Jvm.Cond.instanceMethod ({ cls := "PeelRibbons$Leaves", name := "isFull", desc := "()Z" } : Jvm.MethodName) ∈ gG := gG_of (List.mem_of_getElem? (i := 585) rfl) rfl
set_option maxRecDepth 20000 in
theorem mw_561 : Jvm.Cond.selects "PeelRibbons$Leaves" ({ cls := "PeelRibbons$Leaves", name := "isFull", desc := "()Z" } : Jvm.MethodName) ({ cls := "PeelRibbons$Leaves", name := "isFull", desc := "()Z" } : Jvm.MethodName) ∈ gG := gG_of (List.mem_of_getElem? (i := 586) rfl) rfl
set_option maxRecDepth 20000 in
theorem mw_564 : Jvm.Cond.methodLink "PeelRibbons" (167 : Nat) ({ cls := "PeelRibbons$Leaves", name := "add", desc := "(II)I" } : Jvm.MethodName) ∈ gG := gG_of (List.mem_of_getElem? (i := 589) rfl) rfl
set_option maxRecDepth 20000 in
theorem mw_565 : Jvm.Cond.instanceMethod ({ cls := "PeelRibbons$Leaves", name := "add", desc := "(II)I" } : Jvm.MethodName) ∈ gG := gG_of (List.mem_of_getElem? (i := 590) rfl) rfl
set_option maxRecDepth 20000 in
theorem mw_566 : Jvm.Cond.selects "PeelRibbons$Leaves" ({ cls := "PeelRibbons$Leaves", name := "add", desc := "(II)I" } : Jvm.MethodName) ({ cls := "PeelRibbons$Leaves", name := "add", desc := "(II)I" } : Jvm.MethodName) ∈ gG := gG_of (List.mem_of_getElem? (i := 591) rfl) rfl
set_option maxRecDepth 20000 in
theorem mw_575 : Jvm.Cond.methodLink "PeelRibbons" (170 : Nat) ({ cls := "PeelRibbons$Leaves", name := "has", desc := "(I)Z" } : Jvm.MethodName) ∈ gG := gG_of (List.mem_of_getElem? (i := 600) rfl) rfl
set_option maxRecDepth 20000 in
theorem mw_576 : Jvm.Cond.instanceMethod ({ cls := "PeelRibbons$Leaves", name := "has", desc := "(I)Z" } : Jvm.MethodName) ∈ gG := gG_of (List.mem_of_getElem? (i := 601) rfl) rfl
set_option maxRecDepth 20000 in
theorem mw_577 : Jvm.Cond.selects "PeelRibbons$Leaves" ({ cls := "PeelRibbons$Leaves", name := "has", desc := "(I)Z" } : Jvm.MethodName) ({ cls := "PeelRibbons$Leaves", name := "has", desc := "(I)Z" } : Jvm.MethodName) ∈ gG := gG_of (List.mem_of_getElem? (i := 602) rfl) rfl
set_option maxRecDepth 20000 in
theorem mw_581 : Jvm.Cond.methodLink "PeelRibbons" (173 : Nat) ({ cls := "PeelRibbons$Leaves", name := "tellBar", desc := "(IIZ)Z" } : Jvm.MethodName) ∈ gG := gG_of (List.mem_of_getElem? (i := 606) rfl) rfl
set_option maxRecDepth 20000 in
theorem mw_582 : Jvm.Cond.instanceMethod ({ cls := "PeelRibbons$Leaves", name := "tellBar", desc := "(IIZ)Z" } : Jvm.MethodName) ∈ gG := gG_of (List.mem_of_getElem? (i := 607) rfl) rfl
set_option maxRecDepth 20000 in
theorem mw_583 : Jvm.Cond.selects "PeelRibbons$Leaves" ({ cls := "PeelRibbons$Leaves", name := "tellBar", desc := "(IIZ)Z" } : Jvm.MethodName) ({ cls := "PeelRibbons$Leaves", name := "tellBar", desc := "(IIZ)Z" } : Jvm.MethodName) ∈ gG := gG_of (List.mem_of_getElem? (i := 608) rfl) rfl
set_option maxRecDepth 20000 in
theorem mw_585 : Jvm.Cond.methodLink "PeelRibbons$Leaves" (29 : Nat) ({ cls := "PeelRibbons$Leaves", name := "barsAny", desc := "(II)Z" } : Jvm.MethodName) ∈ gG := gG_of (List.mem_of_getElem? (i := 610) rfl) rfl
set_option maxRecDepth 20000 in
theorem mw_586 : Jvm.Cond.instanceMethod ({ cls := "PeelRibbons$Leaves", name := "barsAny", desc := "(II)Z" } : Jvm.MethodName) ∈ gG := gG_of (List.mem_of_getElem? (i := 611) rfl) rfl
set_option maxRecDepth 20000 in
theorem mw_587 : Jvm.Cond.selects "PeelRibbons$Leaves" ({ cls := "PeelRibbons$Leaves", name := "barsAny", desc := "(II)Z" } : Jvm.MethodName) ({ cls := "PeelRibbons$Leaves", name := "barsAny", desc := "(II)Z" } : Jvm.MethodName) ∈ gG := gG_of (List.mem_of_getElem? (i := 612) rfl) rfl
set_option maxRecDepth 20000 in
theorem mw_597 : Jvm.Cond.methodLink "PeelRibbons" (179 : Nat) ({ cls := "PeelRibbons$Clipping", name := "cut", desc := "(LPeelRibbons$Ribbon;LPeelRibbons$Faults;LPeelRibbons$Leaves;I)V" } : Jvm.MethodName) ∈ gG := gG_of (List.mem_of_getElem? (i := 622) rfl) rfl
set_option maxRecDepth 20000 in
theorem mw_598 : Jvm.Cond.instanceMethod ({ cls := "PeelRibbons$Clipping", name := "cut", desc := "(LPeelRibbons$Ribbon;LPeelRibbons$Faults;LPeelRibbons$Leaves;I)V" } : Jvm.MethodName) ∈ gG := gG_of (List.mem_of_getElem? (i := 623) rfl) rfl
set_option maxRecDepth 20000 in
theorem mw_599 : Jvm.Cond.selects "PeelRibbons$Clipping" ({ cls := "PeelRibbons$Clipping", name := "cut", desc := "(LPeelRibbons$Ribbon;LPeelRibbons$Faults;LPeelRibbons$Leaves;I)V" } : Jvm.MethodName) ({ cls := "PeelRibbons$Clipping", name := "cut", desc := "(LPeelRibbons$Ribbon;LPeelRibbons$Faults;LPeelRibbons$Leaves;I)V" } : Jvm.MethodName) ∈ gG := gG_of (List.mem_of_getElem? (i := 624) rfl) rfl
set_option maxRecDepth 20000 in
theorem mw_601 : Jvm.Cond.methodLink "PeelRibbons$Clipping" (47 : Nat) ({ cls := "java/lang/Math", name := "max", desc := "(II)I" } : Jvm.MethodName) ∈ gG := gG_of (List.mem_of_getElem? (i := 626) rfl) rfl
set_option maxRecDepth 20000 in
theorem mw_602 : Jvm.Cond.methodLink "PeelRibbons$Clipping" (53 : Nat) ({ cls := "PeelRibbons$Ribbon", name := "length", desc := "()I" } : Jvm.MethodName) ∈ gG := gG_of (List.mem_of_getElem? (i := 627) rfl) rfl
set_option maxRecDepth 20000 in
theorem mw_603 : Jvm.Cond.instanceMethod ({ cls := "PeelRibbons$Ribbon", name := "length", desc := "()I" } : Jvm.MethodName) ∈ gG := gG_of (List.mem_of_getElem? (i := 628) rfl) rfl
set_option maxRecDepth 20000 in
theorem mw_604 : Jvm.Cond.selects "PeelRibbons$Ribbon" ({ cls := "PeelRibbons$Ribbon", name := "length", desc := "()I" } : Jvm.MethodName) ({ cls := "PeelRibbons$Ribbon", name := "length", desc := "()I" } : Jvm.MethodName) ∈ gG := gG_of (List.mem_of_getElem? (i := 629) rfl) rfl
set_option maxRecDepth 20000 in
theorem mw_606 : Jvm.Cond.methodLink "PeelRibbons$Clipping" (59 : Nat) ({ cls := "java/lang/Math", name := "min", desc := "(II)I" } : Jvm.MethodName) ∈ gG := gG_of (List.mem_of_getElem? (i := 631) rfl) rfl
set_option maxRecDepth 20000 in
theorem mw_607 : Jvm.Cond.methodLink "PeelRibbons$Clipping" (62 : Nat) ({ cls := "PeelRibbons$Clipping", name := "markFaults", desc := "(LPeelRibbons$Ribbon;LPeelRibbons$Faults;I)V" } : Jvm.MethodName) ∈ gG := gG_of (List.mem_of_getElem? (i := 632) rfl) rfl
set_option maxRecDepth 20000 in
theorem mw_609 : Jvm.Cond.instanceMethod ({ cls := "PeelRibbons$Clipping", name := "markFaults", desc := "(LPeelRibbons$Ribbon;LPeelRibbons$Faults;I)V" } : Jvm.MethodName) ∈ gG := gG_of (List.mem_of_getElem? (i := 634) rfl) rfl
set_option maxRecDepth 20000 in
theorem mw_611 : Jvm.Cond.methodLink "PeelRibbons$Clipping" (73 : Nat) ({ cls := "PeelRibbons$Faults", name := "count", desc := "()I" } : Jvm.MethodName) ∈ gG := gG_of (List.mem_of_getElem? (i := 636) rfl) rfl
set_option maxRecDepth 20000 in
theorem mw_612 : Jvm.Cond.instanceMethod ({ cls := "PeelRibbons$Faults", name := "count", desc := "()I" } : Jvm.MethodName) ∈ gG := gG_of (List.mem_of_getElem? (i := 637) rfl) rfl
set_option maxRecDepth 20000 in
theorem mw_613 : Jvm.Cond.selects "PeelRibbons$Faults" ({ cls := "PeelRibbons$Faults", name := "count", desc := "()I" } : Jvm.MethodName) ({ cls := "PeelRibbons$Faults", name := "count", desc := "()I" } : Jvm.MethodName) ∈ gG := gG_of (List.mem_of_getElem? (i := 638) rfl) rfl
set_option maxRecDepth 20000 in
theorem mw_615 : Jvm.Cond.methodLink "PeelRibbons$Clipping" (77 : Nat) ({ cls := "PeelRibbons$Faults", name := "placeIn", desc := "(LPeelRibbons$Ribbon;I)I" } : Jvm.MethodName) ∈ gG := gG_of (List.mem_of_getElem? (i := 640) rfl) rfl
set_option maxRecDepth 20000 in
theorem mw_616 : Jvm.Cond.methodLink "PeelRibbons$Clipping" (81 : Nat) ({ cls := "PeelRibbons$Faults", name := "kindBit", desc := "(I)I" } : Jvm.MethodName) ∈ gG := gG_of (List.mem_of_getElem? (i := 641) rfl) rfl
set_option maxRecDepth 20000 in
theorem mw_617 : Jvm.Cond.instanceMethod ({ cls := "PeelRibbons$Faults", name := "kindBit", desc := "(I)I" } : Jvm.MethodName) ∈ gG := gG_of (List.mem_of_getElem? (i := 642) rfl) rfl
set_option maxRecDepth 20000 in
theorem mw_618 : Jvm.Cond.selects "PeelRibbons$Faults" ({ cls := "PeelRibbons$Faults", name := "kindBit", desc := "(I)I" } : Jvm.MethodName) ({ cls := "PeelRibbons$Faults", name := "kindBit", desc := "(I)I" } : Jvm.MethodName) ∈ gG := gG_of (List.mem_of_getElem? (i := 643) rfl) rfl
set_option maxRecDepth 20000 in
theorem mw_620 : Jvm.Cond.methodLink "PeelRibbons$Clipping" (66 : Nat) ({ cls := "PeelRibbons$Clipping", name := "chooseFromTheEnd", desc := "(LPeelRibbons$Leaves;)V" } : Jvm.MethodName) ∈ gG := gG_of (List.mem_of_getElem? (i := 645) rfl) rfl
set_option maxRecDepth 20000 in
theorem mw_622 : Jvm.Cond.instanceMethod ({ cls := "PeelRibbons$Clipping", name := "chooseFromTheEnd", desc := "(LPeelRibbons$Leaves;)V" } : Jvm.MethodName) ∈ gG := gG_of (List.mem_of_getElem? (i := 647) rfl) rfl
set_option maxRecDepth 20000 in
theorem mw_624 : Jvm.Cond.methodLink "PeelRibbons$Clipping" (85 : Nat) ({ cls := "PeelRibbons$Leaves", name := "count", desc := "()I" } : Jvm.MethodName) ∈ gG := gG_of (List.mem_of_getElem? (i := 649) rfl) rfl
set_option maxRecDepth 20000 in
theorem mw_625 : Jvm.Cond.instanceMethod ({ cls := "PeelRibbons$Leaves", name := "count", desc := "()I" } : Jvm.MethodName) ∈ gG := gG_of (List.mem_of_getElem? (i := 650) rfl) rfl
set_option maxRecDepth 20000 in
theorem mw_626 : Jvm.Cond.selects "PeelRibbons$Leaves" ({ cls := "PeelRibbons$Leaves", name := "count", desc := "()I" } : Jvm.MethodName) ({ cls := "PeelRibbons$Leaves", name := "count", desc := "()I" } : Jvm.MethodName) ∈ gG := gG_of (List.mem_of_getElem? (i := 651) rfl) rfl
set_option maxRecDepth 20000 in
theorem mw_628 : Jvm.Cond.methodLink "PeelRibbons$Clipping" (86 : Nat) ({ cls := "PeelRibbons$Clipping", name := "chooseAt", desc := "(ILPeelRibbons$Leaves;)V" } : Jvm.MethodName) ∈ gG := gG_of (List.mem_of_getElem? (i := 653) rfl) rfl
set_option maxRecDepth 20000 in
theorem mw_630 : Jvm.Cond.instanceMethod ({ cls := "PeelRibbons$Clipping", name := "chooseAt", desc := "(ILPeelRibbons$Leaves;)V" } : Jvm.MethodName) ∈ gG := gG_of (List.mem_of_getElem? (i := 655) rfl) rfl
set_option maxRecDepth 20000 in
theorem mw_632 : Jvm.Cond.methodLink "PeelRibbons$Clipping" (90 : Nat) ({ cls := "PeelRibbons$Leaves", name := "barsAny", desc := "(II)Z" } : Jvm.MethodName) ∈ gG := gG_of (List.mem_of_getElem? (i := 657) rfl) rfl
set_option maxRecDepth 20000 in
theorem mw_633 : Jvm.Cond.methodLink "PeelRibbons$Clipping" (94 : Nat) ({ cls := "PeelRibbons$Leaves", name := "width", desc := "(I)I" } : Jvm.MethodName) ∈ gG := gG_of (List.mem_of_getElem? (i := 658) rfl) rfl
set_option maxRecDepth 20000 in
theorem mw_634 : Jvm.Cond.instanceMethod ({ cls := "PeelRibbons$Leaves", name := "width", desc := "(I)I" } : Jvm.MethodName) ∈ gG := gG_of (List.mem_of_getElem? (i := 659) rfl) rfl
set_option maxRecDepth 20000 in
theorem mw_635 : Jvm.Cond.selects "PeelRibbons$Leaves" ({ cls := "PeelRibbons$Leaves", name := "width", desc := "(I)I" } : Jvm.MethodName) ({ cls := "PeelRibbons$Leaves", name := "width", desc := "(I)I" } : Jvm.MethodName) ∈ gG := gG_of (List.mem_of_getElem? (i := 660) rfl) rfl
set_option maxRecDepth 20000 in
theorem mw_637 : Jvm.Cond.methodLink "PeelRibbons$Clipping" (97 : Nat) ({ cls := "PeelRibbons$Leaves", name := "worth", desc := "(I)I" } : Jvm.MethodName) ∈ gG := gG_of (List.mem_of_getElem? (i := 662) rfl) rfl
set_option maxRecDepth 20000 in
theorem mw_638 : Jvm.Cond.instanceMethod ({ cls := "PeelRibbons$Leaves", name := "worth", desc := "(I)I" } : Jvm.MethodName) ∈ gG := gG_of (List.mem_of_getElem? (i := 663) rfl) rfl
set_option maxRecDepth 20000 in
theorem mw_639 : Jvm.Cond.selects "PeelRibbons$Leaves" ({ cls := "PeelRibbons$Leaves", name := "worth", desc := "(I)I" } : Jvm.MethodName) ({ cls := "PeelRibbons$Leaves", name := "worth", desc := "(I)I" } : Jvm.MethodName) ∈ gG := gG_of (List.mem_of_getElem? (i := 664) rfl) rfl
set_option maxRecDepth 20000 in
theorem mw_641 : Jvm.Cond.constantLong "PeelRibbons$Clipping" (99 : Nat) (2001 : Int64) ∈ gG := gG_of (List.mem_of_getElem? (i := 666) rfl) rfl
set_option maxRecDepth 20000 in
theorem mw_642 : Jvm.Cond.methodLink "PeelRibbons$Clipping" (101 : Nat) ({ cls := "PeelRibbons$Clipping", name := "tryLeaf", desc := "(IIJ)V" } : Jvm.MethodName) ∈ gG := gG_of (List.mem_of_getElem? (i := 667) rfl) rfl
set_option maxRecDepth 20000 in
theorem mw_644 : Jvm.Cond.instanceMethod ({ cls := "PeelRibbons$Clipping", name := "tryLeaf", desc := "(IIJ)V" } : Jvm.MethodName) ∈ gG := gG_of (List.mem_of_getElem? (i := 669) rfl) rfl
set_option maxRecDepth 20000 in
theorem mw_646 : Jvm.Cond.methodLink "PeelRibbons$Clipping" (70 : Nat) ({ cls := "PeelRibbons$Clipping", name := "listFromTheBegin", desc := "(LPeelRibbons$Leaves;)V" } : Jvm.MethodName) ∈ gG := gG_of (List.mem_of_getElem? (i := 671) rfl) rfl
set_option maxRecDepth 20000 in
theorem mw_648 : Jvm.Cond.instanceMethod ({ cls := "PeelRibbons$Clipping", name := "listFromTheBegin", desc := "(LPeelRibbons$Leaves;)V" } : Jvm.MethodName) ∈ gG := gG_of (List.mem_of_getElem? (i := 673) rfl) rfl
set_option maxRecDepth 20000 in
theorem mw_650 : Jvm.Cond.methodLink "PeelRibbons" (183 : Nat) ({ cls := "PeelRibbons$Clipping", name := "count", desc := "()I" } : Jvm.MethodName) ∈ gG := gG_of (List.mem_of_getElem? (i := 675) rfl) rfl
set_option maxRecDepth 20000 in
theorem mw_651 : Jvm.Cond.instanceMethod ({ cls := "PeelRibbons$Clipping", name := "count", desc := "()I" } : Jvm.MethodName) ∈ gG := gG_of (List.mem_of_getElem? (i := 676) rfl) rfl
set_option maxRecDepth 20000 in
theorem mw_652 : Jvm.Cond.selects "PeelRibbons$Clipping" ({ cls := "PeelRibbons$Clipping", name := "count", desc := "()I" } : Jvm.MethodName) ({ cls := "PeelRibbons$Clipping", name := "count", desc := "()I" } : Jvm.MethodName) ∈ gG := gG_of (List.mem_of_getElem? (i := 677) rfl) rfl
set_option maxRecDepth 20000 in
theorem mw_661 : Jvm.Cond.methodLink "PeelRibbons" (186 : Nat) ({ cls := "PeelRibbons$Clipping", name := "isDone", desc := "()Z" } : Jvm.MethodName) ∈ gG := gG_of (List.mem_of_getElem? (i := 686) rfl) rfl
set_option maxRecDepth 20000 in
theorem mw_662 : Jvm.Cond.instanceMethod ({ cls := "PeelRibbons$Clipping", name := "isDone", desc := "()Z" } : Jvm.MethodName) ∈ gG := gG_of (List.mem_of_getElem? (i := 687) rfl) rfl
set_option maxRecDepth 20000 in
theorem mw_663 : Jvm.Cond.selects "PeelRibbons$Clipping" ({ cls := "PeelRibbons$Clipping", name := "isDone", desc := "()Z" } : Jvm.MethodName) ({ cls := "PeelRibbons$Clipping", name := "isDone", desc := "()Z" } : Jvm.MethodName) ∈ gG := gG_of (List.mem_of_getElem? (i := 688) rfl) rfl
set_option maxRecDepth 20000 in
theorem mw_667 : Jvm.Cond.methodLink "PeelRibbons" (193 : Nat) ({ cls := "PeelRibbons$Clipping", name := "leafOf", desc := "(I)I" } : Jvm.MethodName) ∈ gG := gG_of (List.mem_of_getElem? (i := 692) rfl) rfl
set_option maxRecDepth 20000 in
theorem mw_668 : Jvm.Cond.instanceMethod ({ cls := "PeelRibbons$Clipping", name := "leafOf", desc := "(I)I" } : Jvm.MethodName) ∈ gG := gG_of (List.mem_of_getElem? (i := 693) rfl) rfl
set_option maxRecDepth 20000 in
theorem mw_669 : Jvm.Cond.selects "PeelRibbons$Clipping" ({ cls := "PeelRibbons$Clipping", name := "leafOf", desc := "(I)I" } : Jvm.MethodName) ({ cls := "PeelRibbons$Clipping", name := "leafOf", desc := "(I)I" } : Jvm.MethodName) ∈ gG := gG_of (List.mem_of_getElem? (i := 694) rfl) rfl
set_option maxRecDepth 20000 in
theorem mw_671 : Jvm.Cond.methodLink "PeelRibbons" (196 : Nat) ({ cls := "PeelRibbons$Clipping", name := "firstStepOf", desc := "(I)I" } : Jvm.MethodName) ∈ gG := gG_of (List.mem_of_getElem? (i := 696) rfl) rfl
set_option maxRecDepth 20000 in
theorem mw_672 : Jvm.Cond.instanceMethod ({ cls := "PeelRibbons$Clipping", name := "firstStepOf", desc := "(I)I" } : Jvm.MethodName) ∈ gG := gG_of (List.mem_of_getElem? (i := 697) rfl) rfl
set_option maxRecDepth 20000 in
theorem mw_673 : Jvm.Cond.selects "PeelRibbons$Clipping" ({ cls := "PeelRibbons$Clipping", name := "firstStepOf", desc := "(I)I" } : Jvm.MethodName) ({ cls := "PeelRibbons$Clipping", name := "firstStepOf", desc := "(I)I" } : Jvm.MethodName) ∈ gG := gG_of (List.mem_of_getElem? (i := 698) rfl) rfl
set_option maxRecDepth 20000 in
theorem mw_683 : Jvm.Cond.methodLink "PeelRibbons" (201 : Nat) ({ cls := "PeelRibbons$Clipping", name := "worth", desc := "()I" } : Jvm.MethodName) ∈ gG := gG_of (List.mem_of_getElem? (i := 708) rfl) rfl
set_option maxRecDepth 20000 in
theorem mw_684 : Jvm.Cond.instanceMethod ({ cls := "PeelRibbons$Clipping", name := "worth", desc := "()I" } : Jvm.MethodName) ∈ gG := gG_of (List.mem_of_getElem? (i := 709) rfl) rfl
set_option maxRecDepth 20000 in
theorem mw_685 : Jvm.Cond.selects "PeelRibbons$Clipping" ({ cls := "PeelRibbons$Clipping", name := "worth", desc := "()I" } : Jvm.MethodName) ({ cls := "PeelRibbons$Clipping", name := "worth", desc := "()I" } : Jvm.MethodName) ∈ gG := gG_of (List.mem_of_getElem? (i := 710) rfl) rfl
set_option maxRecDepth 20000 in
theorem mw_687 : Jvm.Cond.methodLink "PeelRibbons" (204 : Nat) ({ cls := "PeelRibbons$Clipping", name := "waste", desc := "()I" } : Jvm.MethodName) ∈ gG := gG_of (List.mem_of_getElem? (i := 712) rfl) rfl
set_option maxRecDepth 20000 in
theorem mw_688 : Jvm.Cond.instanceMethod ({ cls := "PeelRibbons$Clipping", name := "waste", desc := "()I" } : Jvm.MethodName) ∈ gG := gG_of (List.mem_of_getElem? (i := 713) rfl) rfl
set_option maxRecDepth 20000 in
theorem mw_689 : Jvm.Cond.selects "PeelRibbons$Clipping" ({ cls := "PeelRibbons$Clipping", name := "waste", desc := "()I" } : Jvm.MethodName) ({ cls := "PeelRibbons$Clipping", name := "waste", desc := "()I" } : Jvm.MethodName) ∈ gG := gG_of (List.mem_of_getElem? (i := 714) rfl) rfl
set_option maxRecDepth 20000 in
theorem mw_691 : Jvm.Cond.methodLink "PeelRibbons" (207 : Nat) ({ cls := "PeelRibbons$Clipping", name := "steps", desc := "()I" } : Jvm.MethodName) ∈ gG := gG_of (List.mem_of_getElem? (i := 716) rfl) rfl
set_option maxRecDepth 20000 in
theorem mw_692 : Jvm.Cond.instanceMethod ({ cls := "PeelRibbons$Clipping", name := "steps", desc := "()I" } : Jvm.MethodName) ∈ gG := gG_of (List.mem_of_getElem? (i := 717) rfl) rfl
set_option maxRecDepth 20000 in
theorem mw_693 : Jvm.Cond.selects "PeelRibbons$Clipping" ({ cls := "PeelRibbons$Clipping", name := "steps", desc := "()I" } : Jvm.MethodName) ({ cls := "PeelRibbons$Clipping", name := "steps", desc := "()I" } : Jvm.MethodName) ∈ gG := gG_of (List.mem_of_getElem? (i := 718) rfl) rfl
set_option maxRecDepth 20000 in
theorem mw_704 : Jvm.Cond.methodLink "PeelRibbons" (214 : Nat) ({ cls := "PeelRibbons$Leaves", name := "width", desc := "(I)I" } : Jvm.MethodName) ∈ gG := gG_of (List.mem_of_getElem? (i := 729) rfl) rfl
set_option maxRecDepth 20000 in
theorem mw_712 : Jvm.Cond.methodLink "PeelRibbons" (217 : Nat) ({ cls := "PeelRibbons$KnifeRows", name := "isBelowLast", desc := "(I)Z" } : Jvm.MethodName) ∈ gG := gG_of (List.mem_of_getElem? (i := 737) rfl) rfl
set_option maxRecDepth 20000 in
theorem mw_713 : Jvm.Cond.instanceMethod ({ cls := "PeelRibbons$KnifeRows", name := "isBelowLast", desc := "(I)Z" } : Jvm.MethodName) ∈ gG := gG_of (List.mem_of_getElem? (i := 738) rfl) rfl
set_option maxRecDepth 20000 in
theorem mw_714 : Jvm.Cond.selects "PeelRibbons$KnifeRows" ({ cls := "PeelRibbons$KnifeRows", name := "isBelowLast", desc := "(I)Z" } : Jvm.MethodName) ({ cls := "PeelRibbons$KnifeRows", name := "isBelowLast", desc := "(I)Z" } : Jvm.MethodName) ∈ gG := gG_of (List.mem_of_getElem? (i := 739) rfl) rfl
set_option maxRecDepth 20000 in
theorem mw_717 : Jvm.Cond.methodLink "PeelRibbons" (222 : Nat) ({ cls := "PeelRibbons$KnifeRows", name := "add", desc := "(II)Z" } : Jvm.MethodName) ∈ gG := gG_of (List.mem_of_getElem? (i := 742) rfl) rfl
set_option maxRecDepth 20000 in
theorem mw_718 : Jvm.Cond.instanceMethod ({ cls := "PeelRibbons$KnifeRows", name := "add", desc := "(II)Z" } : Jvm.MethodName) ∈ gG := gG_of (List.mem_of_getElem? (i := 743) rfl) rfl
set_option maxRecDepth 20000 in
theorem mw_719 : Jvm.Cond.selects "PeelRibbons$KnifeRows" ({ cls := "PeelRibbons$KnifeRows", name := "add", desc := "(II)Z" } : Jvm.MethodName) ({ cls := "PeelRibbons$KnifeRows", name := "add", desc := "(II)Z" } : Jvm.MethodName) ∈ gG := gG_of (List.mem_of_getElem? (i := 744) rfl) rfl
set_option maxRecDepth 20000 in
theorem mw_729 : Jvm.Cond.methodLink "PeelRibbons" (226 : Nat) ({ cls := "PeelRibbons$KnifeRows", name := "answerAt", desc := "(I)I" } : Jvm.MethodName) ∈ gG := gG_of (List.mem_of_getElem? (i := 754) rfl) rfl
set_option maxRecDepth 20000 in
theorem mw_730 : Jvm.Cond.instanceMethod ({ cls := "PeelRibbons$KnifeRows", name := "answerAt", desc := "(I)I" } : Jvm.MethodName) ∈ gG := gG_of (List.mem_of_getElem? (i := 755) rfl) rfl
set_option maxRecDepth 20000 in
theorem mw_731 : Jvm.Cond.selects "PeelRibbons$KnifeRows" ({ cls := "PeelRibbons$KnifeRows", name := "answerAt", desc := "(I)I" } : Jvm.MethodName) ({ cls := "PeelRibbons$KnifeRows", name := "answerAt", desc := "(I)I" } : Jvm.MethodName) ∈ gG := gG_of (List.mem_of_getElem? (i := 756) rfl) rfl
theorem mc_260 : Cond.constant "PeelRibbons$Slices" 65 (iI 2147483647) ∈ gG := by
  rw [show iI 2147483647 = (2147483647 : Int32) from by decide]
  exact mw_260
theorem mc_293 : Cond.constant "PeelRibbons$Axes" 44 (iI 2147483647) ∈ gG := by
  rw [show iI 2147483647 = (2147483647 : Int32) from by decide]
  exact mw_293
theorem mc_557 : Cond.constant "PeelRibbons" 161 (iI 1000000) ∈ gG := by
  rw [show iI 1000000 = (1000000 : Int32) from by decide]
  exact mw_557
theorem mc_641 : Cond.constantLong "PeelRibbons$Clipping" 99 (lI 2001) ∈ gG := by
  rw [show lI 2001 = (2001 : Int64) from by decide]
  exact mw_641
set_option maxRecDepth 20000 in
theorem mk_max : Cond.code Lib.Math.max.name Lib.Math.max.code 2 (some .int) ∈ gG := gG_of (List.mem_of_getElem? (i := 60) rfl) rfl
set_option maxRecDepth 20000 in
theorem mk_min : Cond.code Lib.Math.min.name Lib.Math.min.code 2 (some .int) ∈ gG := gG_of (List.mem_of_getElem? (i := 57) rfl) rfl
set_option maxRecDepth 20000 in
theorem ps_0 : Cond.selects "PeelRibbons$Axes" ⟨"PeelRibbons$Axes", "seekIfStale", "()V"⟩ ⟨"PeelRibbons$Axes", "seekIfStale", "()V"⟩ ∈ gG := gG_of (List.mem_of_getElem? (i := 0) rfl) rfl
set_option maxRecDepth 20000 in
theorem ps_1 : Cond.selects "PeelRibbons$Axes" ⟨"PeelRibbons$Axes", "seek", "()V"⟩ ⟨"PeelRibbons$Axes", "seek", "()V"⟩ ∈ gG := gG_of (List.mem_of_getElem? (i := 1) rfl) rfl
set_option maxRecDepth 20000 in
theorem ps_2 : Cond.selects "PeelRibbons$Axes" ⟨"PeelRibbons$Axes", "keep", "(IIIII)V"⟩ ⟨"PeelRibbons$Axes", "keep", "(IIIII)V"⟩ ∈ gG := gG_of (List.mem_of_getElem? (i := 2) rfl) rfl
set_option maxRecDepth 20000 in
theorem ps_3 : Cond.selects "PeelRibbons$Slices" ⟨"PeelRibbons$Slices", "measure", "(I)V"⟩ ⟨"PeelRibbons$Slices", "measure", "(I)V"⟩ ∈ gG := gG_of (List.mem_of_getElem? (i := 3) rfl) rfl
set_option maxRecDepth 20000 in
theorem ps_4 : Cond.selects "PeelRibbons$Slices" ⟨"PeelRibbons$Slices", "nearestInColumnOf", "(III)I"⟩ ⟨"PeelRibbons$Slices", "nearestInColumnOf", "(III)I"⟩ ∈ gG := gG_of (List.mem_of_getElem? (i := 4) rfl) rfl
set_option maxRecDepth 20000 in
theorem ps_5 : Cond.selects "PeelRibbons$Slices" ⟨"PeelRibbons$Slices", "isIn", "(III)Z"⟩ ⟨"PeelRibbons$Slices", "isIn", "(III)Z"⟩ ∈ gG := gG_of (List.mem_of_getElem? (i := 5) rfl) rfl
set_option maxRecDepth 20000 in
theorem ps_6 : Cond.selects "PeelRibbons$Slices" ⟨"PeelRibbons$Slices", "indexOf", "(III)I"⟩ ⟨"PeelRibbons$Slices", "indexOf", "(III)I"⟩ ∈ gG := gG_of (List.mem_of_getElem? (i := 6) rfl) rfl
set_option maxRecDepth 20000 in
theorem ps_7 : Cond.selects "PeelRibbons$Slices" ⟨"PeelRibbons$Slices", "gap", "(II)I"⟩ ⟨"PeelRibbons$Slices", "gap", "(II)I"⟩ ∈ gG := gG_of (List.mem_of_getElem? (i := 7) rfl) rfl
set_option maxRecDepth 20000 in
theorem ps_8 : Cond.selects "PeelRibbons$Slices" ⟨"PeelRibbons$Slices", "nearestOverColumns", "(I)I"⟩ ⟨"PeelRibbons$Slices", "nearestOverColumns", "(I)I"⟩ ∈ gG := gG_of (List.mem_of_getElem? (i := 8) rfl) rfl
set_option maxRecDepth 20000 in
theorem ps_9 : Cond.selects "PeelRibbons$Axes" ⟨"PeelRibbons$Axes", "seekFrom", "(II)V"⟩ ⟨"PeelRibbons$Axes", "seekFrom", "(II)V"⟩ ∈ gG := gG_of (List.mem_of_getElem? (i := 9) rfl) rfl
set_option maxRecDepth 20000 in
theorem ps_10 : Cond.selects "PeelRibbons$Axes" ⟨"PeelRibbons$Axes", "roomAbove", "(IIIII)I"⟩ ⟨"PeelRibbons$Axes", "roomAbove", "(IIIII)I"⟩ ∈ gG := gG_of (List.mem_of_getElem? (i := 10) rfl) rfl
set_option maxRecDepth 20000 in
theorem ps_11 : Cond.selects "PeelRibbons$Axes" ⟨"PeelRibbons$Axes", "placeAt", "(III)I"⟩ ⟨"PeelRibbons$Axes", "placeAt", "(III)I"⟩ ∈ gG := gG_of (List.mem_of_getElem? (i := 11) rfl) rfl
set_option maxRecDepth 20000 in
theorem ps_13 : Cond.selects "PeelRibbons$Clipping" ⟨"PeelRibbons$Clipping", "markFaults", "(LPeelRibbons$Ribbon;LPeelRibbons$Faults;I)V"⟩ ⟨"PeelRibbons$Clipping", "markFaults", "(LPeelRibbons$Ribbon;LPeelRibbons$Faults;I)V"⟩ ∈ gG := gG_of (List.mem_of_getElem? (i := 13) rfl) rfl
set_option maxRecDepth 20000 in
theorem ps_14 : Cond.selects "PeelRibbons$Clipping" ⟨"PeelRibbons$Clipping", "chooseFromTheEnd", "(LPeelRibbons$Leaves;)V"⟩ ⟨"PeelRibbons$Clipping", "chooseFromTheEnd", "(LPeelRibbons$Leaves;)V"⟩ ∈ gG := gG_of (List.mem_of_getElem? (i := 14) rfl) rfl
set_option maxRecDepth 20000 in
theorem ps_15 : Cond.selects "PeelRibbons$Clipping" ⟨"PeelRibbons$Clipping", "chooseAt", "(ILPeelRibbons$Leaves;)V"⟩ ⟨"PeelRibbons$Clipping", "chooseAt", "(ILPeelRibbons$Leaves;)V"⟩ ∈ gG := gG_of (List.mem_of_getElem? (i := 15) rfl) rfl
set_option maxRecDepth 20000 in
theorem ps_16 : Cond.selects "PeelRibbons$Clipping" ⟨"PeelRibbons$Clipping", "tryLeaf", "(IIJ)V"⟩ ⟨"PeelRibbons$Clipping", "tryLeaf", "(IIJ)V"⟩ ∈ gG := gG_of (List.mem_of_getElem? (i := 16) rfl) rfl
set_option maxRecDepth 20000 in
theorem ps_17 : Cond.selects "PeelRibbons$Clipping" ⟨"PeelRibbons$Clipping", "listFromTheBegin", "(LPeelRibbons$Leaves;)V"⟩ ⟨"PeelRibbons$Clipping", "listFromTheBegin", "(LPeelRibbons$Leaves;)V"⟩ ∈ gG := gG_of (List.mem_of_getElem? (i := 17) rfl) rfl
def nsG : List (String × Nat × MethodName × String) := [("PeelRibbons", 33, ⟨"PeelRibbons$Ribbon", "<init>", "()V"⟩, "PeelRibbons"), ("PeelRibbons", 40, ⟨"PeelRibbons$Faults", "<init>", "()V"⟩, "PeelRibbons"), ("PeelRibbons", 47, ⟨"PeelRibbons$Leaves", "<init>", "()V"⟩, "PeelRibbons"), ("PeelRibbons", 54, ⟨"PeelRibbons$Clipping", "<init>", "()V"⟩, "PeelRibbons"), ("PeelRibbons", 61, ⟨"PeelRibbons$KnifeRows", "<init>", "()V"⟩, "PeelRibbons"), ("PeelRibbons$Slices", 42, ⟨"PeelRibbons", "isWithin", "(III)Z"⟩, "PeelRibbons"), ("PeelRibbons$Faults", 23, ⟨"PeelRibbons", "isWithin", "(III)Z"⟩, "PeelRibbons"), ("PeelRibbons$Leaves", 23, ⟨"PeelRibbons", "isWithin", "(III)Z"⟩, "PeelRibbons")]
end
section
def wC (ad : Nat → Nat) (kc : Nat → ClassId) (nn : Nat → Nat) (σ : kM) : va_W := [(ad 0, .inr (0, [.ref (ad 1), .ref (ad 2), .ref (ad 3), .ref (ad 4), .ref (ad 5), .ref (ad 6), .ref (ad 7)])), (ad 1, .inr (1, [.int (iI (σ 1 0)), .int (iI (σ 1 1)), .int (iI (σ 1 2)), .int (iI (σ 1 3)), .ref (ad 8), .ref (ad 9), .ref (ad 10), .ref (ad 11)])), (ad 2, .inr (2, [.ref (ad 1), .ref (ad 12), .int (iI (σ 2 2)), .int (iI (σ 2 3))])), (ad 3, .inr (3, [.int (iI (σ 3 0)), .int (iI (σ 3 1)), .int (iI (σ 3 2)), .int (iI (σ 3 3))])), (ad 4, .inr (4, [.ref (ad 13), .ref (ad 14), .ref (ad 15), .int (iI (σ 4 3))])), (ad 5, .inr (5, [.ref (ad 16), .ref (ad 17), .ref (ad 18), .int (iI (σ 5 3))])), (ad 6, .inr (6, [.ref (ad 19), .ref (ad 20), .ref (ad 21), .ref (ad 22), .ref (ad 23), .int (iI (σ 6 5)), .int (iI (σ 6 6)), .int (iI (σ 6 7)), .int (iI (σ 6 8)), .int (iI (σ 6 9))])), (ad 7, .inr (7, [.ref (ad 24), .ref (ad 25), .int (iI (σ 7 2))])), (ad 8, .inl (kc 8, nn 8, .inl (fun j => iI (σ 8 j)))), (ad 9, .inl (kc 9, nn 9, .inl (fun j => iI (σ 9 j)))), (ad 10, .inl (kc 10, nn 10, .inl (fun j => iI (σ 10 j)))), (ad 11, .inl (kc 11, nn 11, .inl (fun j => iI (σ 11 j)))), (ad 12, .inl (kc 12, 4, .inl (fun j => iI (σ 12 j)))), (ad 13, .inl (kc 13, 16, .inl (fun j => iI (σ 13 j)))), (ad 14, .inl (kc 14, 16, .inl (fun j => iI (σ 14 j)))), (ad 15, .inl (kc 15, 16, .inl (fun j => iI (σ 15 j)))), (ad 16, .inl (kc 16, 6, .inl (fun j => iI (σ 16 j)))), (ad 17, .inl (kc 17, 6, .inl (fun j => iI (σ 17 j)))), (ad 18, .inl (kc 18, 6, .inl (fun j => iI (σ 18 j)))), (ad 19, .inl (kc 19, 2000, .inl (fun j => iI (σ 19 j)))), (ad 20, .inl (kc 20, 2001, .inr (.inl (fun j => lI (σ 20 j))))), (ad 21, .inl (kc 21, 2000, .inl (fun j => iI (σ 21 j)))), (ad 22, .inl (kc 22, 2000, .inl (fun j => iI (σ 22 j)))), (ad 23, .inl (kc 23, 6, .inl (fun j => iI (σ 23 j)))), (ad 24, .inl (kc 24, 8, .inl (fun j => iI (σ 24 j)))), (ad 25, .inl (kc 25, 8, .inl (fun j => iI (σ 25 j))))]
def tyC (kc : Nat → ClassId) : List (ClassId × FieldType) := [(kc 8, .boolean), (kc 9, .int), (kc 10, .boolean), (kc 11, .int), (kc 12, .int), (kc 13, .int), (kc 14, .int), (kc 15, .int), (kc 16, .int), (kc 17, .int), (kc 18, .int), (kc 19, .int), (kc 20, .long), (kc 21, .int), (kc 22, .int), (kc 23, .int), (kc 24, .int), (kc 25, .int)]
theorem wC_p1_0 (ad : Nat → Nat) (kc : Nat → ClassId) (nn : Nat → Nat) (σ : kM) (z : Int) : (wC ad kc nn σ).set 1 (ad 1, .inr (1, ([.int (iI (σ 1 0)), .int (iI (σ 1 1)), .int (iI (σ 1 2)), .int (iI (σ 1 3)), .ref (ad 8), .ref (ad 9), .ref (ad 10), .ref (ad 11)] : List Value).set 0 (.int (iI z)))) = wC ad kc nn (va_up σ 1 (va_up (σ 1) 0 z)) := rfl
theorem wC_p1_1 (ad : Nat → Nat) (kc : Nat → ClassId) (nn : Nat → Nat) (σ : kM) (z : Int) : (wC ad kc nn σ).set 1 (ad 1, .inr (1, ([.int (iI (σ 1 0)), .int (iI (σ 1 1)), .int (iI (σ 1 2)), .int (iI (σ 1 3)), .ref (ad 8), .ref (ad 9), .ref (ad 10), .ref (ad 11)] : List Value).set 1 (.int (iI z)))) = wC ad kc nn (va_up σ 1 (va_up (σ 1) 1 z)) := rfl
theorem wC_p1_2 (ad : Nat → Nat) (kc : Nat → ClassId) (nn : Nat → Nat) (σ : kM) (z : Int) : (wC ad kc nn σ).set 1 (ad 1, .inr (1, ([.int (iI (σ 1 0)), .int (iI (σ 1 1)), .int (iI (σ 1 2)), .int (iI (σ 1 3)), .ref (ad 8), .ref (ad 9), .ref (ad 10), .ref (ad 11)] : List Value).set 2 (.int (iI z)))) = wC ad kc nn (va_up σ 1 (va_up (σ 1) 2 z)) := rfl
theorem wC_p1_3 (ad : Nat → Nat) (kc : Nat → ClassId) (nn : Nat → Nat) (σ : kM) (z : Int) : (wC ad kc nn σ).set 1 (ad 1, .inr (1, ([.int (iI (σ 1 0)), .int (iI (σ 1 1)), .int (iI (σ 1 2)), .int (iI (σ 1 3)), .ref (ad 8), .ref (ad 9), .ref (ad 10), .ref (ad 11)] : List Value).set 3 (.int (iI z)))) = wC ad kc nn (va_up σ 1 (va_up (σ 1) 3 z)) := rfl
theorem wC_p2_2 (ad : Nat → Nat) (kc : Nat → ClassId) (nn : Nat → Nat) (σ : kM) (z : Int) : (wC ad kc nn σ).set 2 (ad 2, .inr (2, ([.ref (ad 1), .ref (ad 12), .int (iI (σ 2 2)), .int (iI (σ 2 3))] : List Value).set 2 (.int (iI z)))) = wC ad kc nn (va_up σ 2 (va_up (σ 2) 2 z)) := rfl
theorem wC_p2_3 (ad : Nat → Nat) (kc : Nat → ClassId) (nn : Nat → Nat) (σ : kM) (z : Int) : (wC ad kc nn σ).set 2 (ad 2, .inr (2, ([.ref (ad 1), .ref (ad 12), .int (iI (σ 2 2)), .int (iI (σ 2 3))] : List Value).set 3 (.int (iI z)))) = wC ad kc nn (va_up σ 2 (va_up (σ 2) 3 z)) := rfl
theorem wC_p3_0 (ad : Nat → Nat) (kc : Nat → ClassId) (nn : Nat → Nat) (σ : kM) (z : Int) : (wC ad kc nn σ).set 3 (ad 3, .inr (3, ([.int (iI (σ 3 0)), .int (iI (σ 3 1)), .int (iI (σ 3 2)), .int (iI (σ 3 3))] : List Value).set 0 (.int (iI z)))) = wC ad kc nn (va_up σ 3 (va_up (σ 3) 0 z)) := rfl
theorem wC_p3_1 (ad : Nat → Nat) (kc : Nat → ClassId) (nn : Nat → Nat) (σ : kM) (z : Int) : (wC ad kc nn σ).set 3 (ad 3, .inr (3, ([.int (iI (σ 3 0)), .int (iI (σ 3 1)), .int (iI (σ 3 2)), .int (iI (σ 3 3))] : List Value).set 1 (.int (iI z)))) = wC ad kc nn (va_up σ 3 (va_up (σ 3) 1 z)) := rfl
theorem wC_p3_2 (ad : Nat → Nat) (kc : Nat → ClassId) (nn : Nat → Nat) (σ : kM) (z : Int) : (wC ad kc nn σ).set 3 (ad 3, .inr (3, ([.int (iI (σ 3 0)), .int (iI (σ 3 1)), .int (iI (σ 3 2)), .int (iI (σ 3 3))] : List Value).set 2 (.int (iI z)))) = wC ad kc nn (va_up σ 3 (va_up (σ 3) 2 z)) := rfl
theorem wC_p3_3 (ad : Nat → Nat) (kc : Nat → ClassId) (nn : Nat → Nat) (σ : kM) (z : Int) : (wC ad kc nn σ).set 3 (ad 3, .inr (3, ([.int (iI (σ 3 0)), .int (iI (σ 3 1)), .int (iI (σ 3 2)), .int (iI (σ 3 3))] : List Value).set 3 (.int (iI z)))) = wC ad kc nn (va_up σ 3 (va_up (σ 3) 3 z)) := rfl
theorem wC_p4_3 (ad : Nat → Nat) (kc : Nat → ClassId) (nn : Nat → Nat) (σ : kM) (z : Int) : (wC ad kc nn σ).set 4 (ad 4, .inr (4, ([.ref (ad 13), .ref (ad 14), .ref (ad 15), .int (iI (σ 4 3))] : List Value).set 3 (.int (iI z)))) = wC ad kc nn (va_up σ 4 (va_up (σ 4) 3 z)) := rfl
theorem wC_p5_3 (ad : Nat → Nat) (kc : Nat → ClassId) (nn : Nat → Nat) (σ : kM) (z : Int) : (wC ad kc nn σ).set 5 (ad 5, .inr (5, ([.ref (ad 16), .ref (ad 17), .ref (ad 18), .int (iI (σ 5 3))] : List Value).set 3 (.int (iI z)))) = wC ad kc nn (va_up σ 5 (va_up (σ 5) 3 z)) := rfl
theorem wC_p6_5 (ad : Nat → Nat) (kc : Nat → ClassId) (nn : Nat → Nat) (σ : kM) (z : Int) : (wC ad kc nn σ).set 6 (ad 6, .inr (6, ([.ref (ad 19), .ref (ad 20), .ref (ad 21), .ref (ad 22), .ref (ad 23), .int (iI (σ 6 5)), .int (iI (σ 6 6)), .int (iI (σ 6 7)), .int (iI (σ 6 8)), .int (iI (σ 6 9))] : List Value).set 5 (.int (iI z)))) = wC ad kc nn (va_up σ 6 (va_up (σ 6) 5 z)) := rfl
theorem wC_p6_6 (ad : Nat → Nat) (kc : Nat → ClassId) (nn : Nat → Nat) (σ : kM) (z : Int) : (wC ad kc nn σ).set 6 (ad 6, .inr (6, ([.ref (ad 19), .ref (ad 20), .ref (ad 21), .ref (ad 22), .ref (ad 23), .int (iI (σ 6 5)), .int (iI (σ 6 6)), .int (iI (σ 6 7)), .int (iI (σ 6 8)), .int (iI (σ 6 9))] : List Value).set 6 (.int (iI z)))) = wC ad kc nn (va_up σ 6 (va_up (σ 6) 6 z)) := rfl
theorem wC_p6_7 (ad : Nat → Nat) (kc : Nat → ClassId) (nn : Nat → Nat) (σ : kM) (z : Int) : (wC ad kc nn σ).set 6 (ad 6, .inr (6, ([.ref (ad 19), .ref (ad 20), .ref (ad 21), .ref (ad 22), .ref (ad 23), .int (iI (σ 6 5)), .int (iI (σ 6 6)), .int (iI (σ 6 7)), .int (iI (σ 6 8)), .int (iI (σ 6 9))] : List Value).set 7 (.int (iI z)))) = wC ad kc nn (va_up σ 6 (va_up (σ 6) 7 z)) := rfl
theorem wC_p6_8 (ad : Nat → Nat) (kc : Nat → ClassId) (nn : Nat → Nat) (σ : kM) (z : Int) : (wC ad kc nn σ).set 6 (ad 6, .inr (6, ([.ref (ad 19), .ref (ad 20), .ref (ad 21), .ref (ad 22), .ref (ad 23), .int (iI (σ 6 5)), .int (iI (σ 6 6)), .int (iI (σ 6 7)), .int (iI (σ 6 8)), .int (iI (σ 6 9))] : List Value).set 8 (.int (iI z)))) = wC ad kc nn (va_up σ 6 (va_up (σ 6) 8 z)) := rfl
theorem wC_p6_9 (ad : Nat → Nat) (kc : Nat → ClassId) (nn : Nat → Nat) (σ : kM) (z : Int) : (wC ad kc nn σ).set 6 (ad 6, .inr (6, ([.ref (ad 19), .ref (ad 20), .ref (ad 21), .ref (ad 22), .ref (ad 23), .int (iI (σ 6 5)), .int (iI (σ 6 6)), .int (iI (σ 6 7)), .int (iI (σ 6 8)), .int (iI (σ 6 9))] : List Value).set 9 (.int (iI z)))) = wC ad kc nn (va_up σ 6 (va_up (σ 6) 9 z)) := rfl
theorem wC_p7_2 (ad : Nat → Nat) (kc : Nat → ClassId) (nn : Nat → Nat) (σ : kM) (z : Int) : (wC ad kc nn σ).set 7 (ad 7, .inr (7, ([.ref (ad 24), .ref (ad 25), .int (iI (σ 7 2))] : List Value).set 2 (.int (iI z)))) = wC ad kc nn (va_up σ 7 (va_up (σ 7) 2 z)) := rfl
theorem wC_a8 (ad : Nat → Nat) (kc : Nat → ClassId) (nn : Nat → Nat) (σ : kM) (i : Nat) (z : Int) : (wC ad kc nn σ).set 8 (ad 8, .inl (kc 8, nn 8, .inl (fun j => iI (va_up (σ 8) i z j)))) = wC ad kc nn (va_up σ 8 (va_up (σ 8) i z)) := rfl
theorem wC_a9 (ad : Nat → Nat) (kc : Nat → ClassId) (nn : Nat → Nat) (σ : kM) (i : Nat) (z : Int) : (wC ad kc nn σ).set 9 (ad 9, .inl (kc 9, nn 9, .inl (fun j => iI (va_up (σ 9) i z j)))) = wC ad kc nn (va_up σ 9 (va_up (σ 9) i z)) := rfl
theorem wC_a10 (ad : Nat → Nat) (kc : Nat → ClassId) (nn : Nat → Nat) (σ : kM) (i : Nat) (z : Int) : (wC ad kc nn σ).set 10 (ad 10, .inl (kc 10, nn 10, .inl (fun j => iI (va_up (σ 10) i z j)))) = wC ad kc nn (va_up σ 10 (va_up (σ 10) i z)) := rfl
theorem wC_a11 (ad : Nat → Nat) (kc : Nat → ClassId) (nn : Nat → Nat) (σ : kM) (i : Nat) (z : Int) : (wC ad kc nn σ).set 11 (ad 11, .inl (kc 11, nn 11, .inl (fun j => iI (va_up (σ 11) i z j)))) = wC ad kc nn (va_up σ 11 (va_up (σ 11) i z)) := rfl
theorem wC_a12 (ad : Nat → Nat) (kc : Nat → ClassId) (nn : Nat → Nat) (σ : kM) (i : Nat) (z : Int) : (wC ad kc nn σ).set 12 (ad 12, .inl (kc 12, 4, .inl (fun j => iI (va_up (σ 12) i z j)))) = wC ad kc nn (va_up σ 12 (va_up (σ 12) i z)) := rfl
theorem wC_a13 (ad : Nat → Nat) (kc : Nat → ClassId) (nn : Nat → Nat) (σ : kM) (i : Nat) (z : Int) : (wC ad kc nn σ).set 13 (ad 13, .inl (kc 13, 16, .inl (fun j => iI (va_up (σ 13) i z j)))) = wC ad kc nn (va_up σ 13 (va_up (σ 13) i z)) := rfl
theorem wC_a14 (ad : Nat → Nat) (kc : Nat → ClassId) (nn : Nat → Nat) (σ : kM) (i : Nat) (z : Int) : (wC ad kc nn σ).set 14 (ad 14, .inl (kc 14, 16, .inl (fun j => iI (va_up (σ 14) i z j)))) = wC ad kc nn (va_up σ 14 (va_up (σ 14) i z)) := rfl
theorem wC_a15 (ad : Nat → Nat) (kc : Nat → ClassId) (nn : Nat → Nat) (σ : kM) (i : Nat) (z : Int) : (wC ad kc nn σ).set 15 (ad 15, .inl (kc 15, 16, .inl (fun j => iI (va_up (σ 15) i z j)))) = wC ad kc nn (va_up σ 15 (va_up (σ 15) i z)) := rfl
theorem wC_a16 (ad : Nat → Nat) (kc : Nat → ClassId) (nn : Nat → Nat) (σ : kM) (i : Nat) (z : Int) : (wC ad kc nn σ).set 16 (ad 16, .inl (kc 16, 6, .inl (fun j => iI (va_up (σ 16) i z j)))) = wC ad kc nn (va_up σ 16 (va_up (σ 16) i z)) := rfl
theorem wC_a17 (ad : Nat → Nat) (kc : Nat → ClassId) (nn : Nat → Nat) (σ : kM) (i : Nat) (z : Int) : (wC ad kc nn σ).set 17 (ad 17, .inl (kc 17, 6, .inl (fun j => iI (va_up (σ 17) i z j)))) = wC ad kc nn (va_up σ 17 (va_up (σ 17) i z)) := rfl
theorem wC_a18 (ad : Nat → Nat) (kc : Nat → ClassId) (nn : Nat → Nat) (σ : kM) (i : Nat) (z : Int) : (wC ad kc nn σ).set 18 (ad 18, .inl (kc 18, 6, .inl (fun j => iI (va_up (σ 18) i z j)))) = wC ad kc nn (va_up σ 18 (va_up (σ 18) i z)) := rfl
theorem wC_a19 (ad : Nat → Nat) (kc : Nat → ClassId) (nn : Nat → Nat) (σ : kM) (i : Nat) (z : Int) : (wC ad kc nn σ).set 19 (ad 19, .inl (kc 19, 2000, .inl (fun j => iI (va_up (σ 19) i z j)))) = wC ad kc nn (va_up σ 19 (va_up (σ 19) i z)) := rfl
theorem wC_a20 (ad : Nat → Nat) (kc : Nat → ClassId) (nn : Nat → Nat) (σ : kM) (i : Nat) (z : Int) : (wC ad kc nn σ).set 20 (ad 20, .inl (kc 20, 2001, .inr (.inl (fun j => lI (va_up (σ 20) i z j))))) = wC ad kc nn (va_up σ 20 (va_up (σ 20) i z)) := rfl
theorem wC_a21 (ad : Nat → Nat) (kc : Nat → ClassId) (nn : Nat → Nat) (σ : kM) (i : Nat) (z : Int) : (wC ad kc nn σ).set 21 (ad 21, .inl (kc 21, 2000, .inl (fun j => iI (va_up (σ 21) i z j)))) = wC ad kc nn (va_up σ 21 (va_up (σ 21) i z)) := rfl
theorem wC_a22 (ad : Nat → Nat) (kc : Nat → ClassId) (nn : Nat → Nat) (σ : kM) (i : Nat) (z : Int) : (wC ad kc nn σ).set 22 (ad 22, .inl (kc 22, 2000, .inl (fun j => iI (va_up (σ 22) i z j)))) = wC ad kc nn (va_up σ 22 (va_up (σ 22) i z)) := rfl
theorem wC_a23 (ad : Nat → Nat) (kc : Nat → ClassId) (nn : Nat → Nat) (σ : kM) (i : Nat) (z : Int) : (wC ad kc nn σ).set 23 (ad 23, .inl (kc 23, 6, .inl (fun j => iI (va_up (σ 23) i z j)))) = wC ad kc nn (va_up σ 23 (va_up (σ 23) i z)) := rfl
theorem wC_a24 (ad : Nat → Nat) (kc : Nat → ClassId) (nn : Nat → Nat) (σ : kM) (i : Nat) (z : Int) : (wC ad kc nn σ).set 24 (ad 24, .inl (kc 24, 8, .inl (fun j => iI (va_up (σ 24) i z j)))) = wC ad kc nn (va_up σ 24 (va_up (σ 24) i z)) := rfl
theorem wC_a25 (ad : Nat → Nat) (kc : Nat → ClassId) (nn : Nat → Nat) (σ : kM) (i : Nat) (z : Int) : (wC ad kc nn σ).set 25 (ad 25, .inl (kc 25, 8, .inl (fun j => iI (va_up (σ 25) i z j)))) = wC ad kc nn (va_up σ 25 (va_up (σ 25) i z)) := rfl
end
section
def wp_P_isWithin (nn : Nat → Nat) (σ : kM) (p0 : Int) (p1 : Int) (p2 : Int) (Pr : Int → Prop) : Prop := iR p0 ∧ iR p1 ∧ ((p0 < p1 → Pr 0) ∧ (¬ p0 < p1 → iR p0 ∧ iR p2 ∧ ((p2 < p0 → Pr 0) ∧ (¬ p2 < p0 → Pr 1))))
def wp_S_hasCell (nn : Nat → Nat) (σ : kM) (p0 : Int) (p1 : Int) (p2 : Int) (Pr : Int → Prop) : Prop := ∃ P1 : Int → Prop, wp_P_isWithin nn σ p0 0 ((σ 1 0) - 1) P1 ∧ ∀ r1 : Int, P1 r1 → iR r1 ∧ ((r1 = 0 → Pr 0) ∧ (¬ r1 = 0 → ∃ P2 : Int → Prop, wp_P_isWithin nn σ p1 0 ((σ 1 1) - 1) P2 ∧ ∀ r2 : Int, P2 r2 → iR r2 ∧ ((r2 = 0 → Pr 0) ∧ (¬ r2 = 0 → ∃ P3 : Int → Prop, wp_P_isWithin nn σ p2 0 ((σ 1 1) - 1) P3 ∧ ∀ r3 : Int, P3 r3 → iR r3 ∧ ((r3 = 0 → Pr 0) ∧ (¬ r3 = 0 → Pr 1))))))
def wp_S_indexOf (nn : Nat → Nat) (σ : kM) (p0 : Int) (p1 : Int) (p2 : Int) (Pr : Int → Prop) : Prop := Pr ((((p0 * (σ 1 1)) + p2) * (σ 1 1)) + p1)
def jn_S_tell_26 (nn : Nat → Nat) (p0 : Int) (p3 : Int) (σ : kM) (Pr : Int → kM → Prop) (v1 : Int) (v2 : Int) : Prop := iR v2 ∧ ((v2 = 0 → (v2 = 0 ∨ v2 = 1) ∧ Pr v2 σ) ∧ (¬ v2 = 0 → (0 ≤ v1 ∧ v1 < (nn 8 : Int) ∧ v1 < 2147483648) ∧ (p3 = 0 ∨ p3 = 1) ∧ ∀ s1 : kM, s1 = va_up σ 8 (va_up (σ 8) v1.toNat p3) → (0 ≤ p0 ∧ p0 < (nn 10 : Int) ∧ p0 < 2147483648) ∧ ∀ s2 : kM, s2 = va_up s1 10 (va_up (s1 10) p0.toNat 1) → (v2 = 0 ∨ v2 = 1) ∧ Pr v2 s2))
def wp_S_tell (nn : Nat → Nat) (σ : kM) (p0 : Int) (p1 : Int) (p2 : Int) (p3 : Int) (Pr : Int → kM → Prop) : Prop := ∀ v1 : Int, v1 = (((p0 * (σ 1 1)) + p2) * (σ 1 1)) + p1 → (0 ≤ v1 ∧ v1 < (nn 8 : Int) ∧ v1 < 2147483648) ∧ iR (σ 8 v1.toNat) ∧ iR p3 ∧ (((σ 8 v1.toNat) = p3 → jn_S_tell_26 nn p0 p3 σ Pr v1 0) ∧ (¬ (σ 8 v1.toNat) = p3 → jn_S_tell_26 nn p0 p3 σ Pr v1 1))
def wp_A_forget (nn : Nat → Nat) (σ : kM) (Pr : kM → Prop) : Prop := ∀ s1 : kM, s1 = va_up σ 2 (va_up (σ 2) 3 1) → Pr s1
def wp_R_forget (nn : Nat → Nat) (σ : kM) (Pr : kM → Prop) : Prop := ∀ s1 : kM, s1 = va_up σ 3 (va_up (σ 3) 0 0) → Pr s1
def wp_C_forget (nn : Nat → Nat) (σ : kM) (Pr : kM → Prop) : Prop := ∀ s1 : kM, s1 = va_up σ 6 (va_up (σ 6) 5 0) → Pr s1
def wp_P_cell (nn : Nat → Nat) (σ : kM) (p0 : Int) (p1 : Int) (p2 : Int) (p3 : Int) (Pr : Int → kM → Prop) (Px : Nat → kM → Prop) : Prop := ∃ P1 : Int → Prop, wp_S_hasCell nn σ p0 p1 p2 P1 ∧ ∀ r1 : Int, P1 r1 → iR r1 ∧ ((¬ r1 = 0 → ∃ P2 : Int → kM → Prop, wp_S_tell nn σ p0 p1 p2 p3 P2 ∧ ∀ (r2 : Int) (s1 : kM), P2 r2 s1 → iR r2 ∧ ((r2 = 0 → (r2 = 0 ∨ r2 = 1) ∧ Pr r2 s1) ∧ (¬ r2 = 0 → ∃ P3 : kM → Prop, wp_A_forget nn s1 P3 ∧ ∀ s2 : kM, P3 s2 → ∃ P4 : kM → Prop, wp_R_forget nn s2 P4 ∧ ∀ s3 : kM, P4 s3 → ∃ P5 : kM → Prop, wp_C_forget nn s3 P5 ∧ ∀ s4 : kM, P5 s4 → (r2 = 0 ∨ r2 = 1) ∧ Pr r2 s4))) ∧ (r1 = 0 → Px 0 σ))
def wp_A_keep (nn : Nat → Nat) (σ : kM) (p0 : Int) (p1 : Int) (p2 : Int) (p3 : Int) (p4 : Int) (Pr : kM → Prop) : Prop := ∀ s1 : kM, s1 = va_up σ 2 (va_up (σ 2) 2 p0) → ∀ s2 : kM, s2 = va_up s1 12 (va_up (s1 12) 0 p1) → ∀ s3 : kM, s3 = va_up s2 12 (va_up (s2 12) 1 p2) → ∀ s4 : kM, s4 = va_up s3 12 (va_up (s3 12) 2 p3) → ∀ s5 : kM, s5 = va_up s4 12 (va_up (s4 12) 3 p4) → Pr s5
def wp_S_side (nn : Nat → Nat) (σ : kM) (Pr : Int → Prop) : Prop := Pr (σ 1 1)
def wp_S_parts (nn : Nat → Nat) (σ : kM) (Pr : Int → Prop) : Prop := Pr (σ 1 2)
def wp_S_isIn (nn : Nat → Nat) (σ : kM) (p0 : Int) (p1 : Int) (p2 : Int) (Pr : Int → Prop) : Prop := ∃ P1 : Int → Prop, wp_S_hasCell nn σ p0 p1 p2 P1 ∧ ∀ r1 : Int, P1 r1 → iR r1 ∧ ((r1 = 0 → Pr 0) ∧ (¬ r1 = 0 → (0 ≤ ((((p0 * (σ 1 1)) + p2) * (σ 1 1)) + p1) ∧ ((((p0 * (σ 1 1)) + p2) * (σ 1 1)) + p1) < (nn 8 : Int) ∧ ((((p0 * (σ 1 1)) + p2) * (σ 1 1)) + p1) < 2147483648) ∧ iR (σ 8 ((((p0 * (σ 1 1)) + p2) * (σ 1 1)) + p1).toNat) ∧ (((σ 8 ((((p0 * (σ 1 1)) + p2) * (σ 1 1)) + p1).toNat) = 0 → Pr 0) ∧ (¬ (σ 8 ((((p0 * (σ 1 1)) + p2) * (σ 1 1)) + p1).toNat) = 0 → Pr 1))))
def wp_S_gap (nn : Nat → Nat) (σ : kM) (p0 : Int) (p1 : Int) (Pr : Int → Prop) : Prop := ∀ v1 : Int, v1 = p1 * (σ 1 2) → ∀ v2 : Int, v2 = v1 + (σ 1 2) → iR p0 ∧ iR v1 ∧ ((v1 ≤ p0 → iR p0 ∧ iR v2 ∧ ((p0 ≤ v2 → Pr 0) ∧ (¬ p0 ≤ v2 → Pr (p0 - v2)))) ∧ (¬ v1 ≤ p0 → Pr (v1 - p0)))
def lpB_S_nearestInColumnOf_7 (nn : Nat → Nat) (p0 : Int) (p1 : Int) (p2 : Int) (σ : kM) (Pe1 K1 : Int → Int → Prop) (v1 : Int) (v2 : Int) : Prop := iR v1 ∧ iR (σ 1 1) ∧ (((σ 1 1) < v1 → Pe1 v1 v2) ∧ (¬ (σ 1 1) < v1 → ∃ P1 : Int → Prop, wp_S_isIn nn σ p0 p1 v1 P1 ∧ ∀ r1 : Int, P1 r1 → iR r1 ∧ ((¬ r1 = 0 → ∀ v5 : Int, v5 = v1 + 1 → K1 v5 v2) ∧ (r1 = 0 → ∃ P2 : Int → Prop, wp_S_gap nn σ p2 v1 P2 ∧ ∀ r2 : Int, P2 r2 → iR v2 ∧ iR (r2 * r2) ∧ ∀ v6 : Int, v6 = (if (r2 * r2) < v2 then r2 * r2 else v2) → ∀ v7 : Int, v7 = v1 + 1 → K1 v7 v6))))
def lp_S_nearestInColumnOf_7 (nn : Nat → Nat) (p0 : Int) (p1 : Int) (p2 : Int) (σ : kM) (Pe1 : Int → Int → Prop) : Nat → Int → Int → Prop
  | 0, _, _ => False
  | k + 1, v1, v2 => lpB_S_nearestInColumnOf_7 nn p0 p1 p2 σ Pe1 (lp_S_nearestInColumnOf_7 nn p0 p1 p2 σ Pe1 k) v1 v2
def wp_S_nearestInColumnOf (nn : Nat → Nat) (σ : kM) (p0 : Int) (p1 : Int) (p2 : Int) (Pr : Int → Prop) : Prop := ∃ (Pe1 : Int → Int → Prop) (k1 : Nat), lp_S_nearestInColumnOf_7 nn p0 p1 p2 σ Pe1 k1 (-1) 2147483647 ∧ ∀ (v3 : Int) (v4 : Int), Pe1 v3 v4 → Pr v4
def lpB_S_nearestOverColumns_5 (nn : Nat → Nat) (p0 : Int) (σ : kM) (Pe1 K1 : Int → Int → Prop) (v1 : Int) (v2 : Int) : Prop := iR v1 ∧ iR (σ 1 1) ∧ (((σ 1 1) < v1 → Pe1 v1 v2) ∧ (¬ (σ 1 1) < v1 → ∃ P1 : Int → Prop, wp_S_gap nn σ p0 v1 P1 ∧ ∀ r1 : Int, P1 r1 → (0 ≤ (v1 + 1) ∧ (v1 + 1) < (nn 11 : Int) ∧ (v1 + 1) < 2147483648) ∧ iR v2 ∧ iR ((r1 * r1) + (σ 11 (v1 + 1).toNat)) ∧ ∀ v5 : Int, v5 = (if ((r1 * r1) + (σ 11 (v1 + 1).toNat)) < v2 then (r1 * r1) + (σ 11 (v1 + 1).toNat) else v2) → ∀ v6 : Int, v6 = v1 + 1 → K1 v6 v5))
def lp_S_nearestOverColumns_5 (nn : Nat → Nat) (p0 : Int) (σ : kM) (Pe1 : Int → Int → Prop) : Nat → Int → Int → Prop
  | 0, _, _ => False
  | k + 1, v1, v2 => lpB_S_nearestOverColumns_5 nn p0 σ Pe1 (lp_S_nearestOverColumns_5 nn p0 σ Pe1 k) v1 v2
def wp_S_nearestOverColumns (nn : Nat → Nat) (σ : kM) (p0 : Int) (Pr : Int → Prop) : Prop := ∃ (Pe1 : Int → Int → Prop) (k1 : Nat), lp_S_nearestOverColumns_5 nn p0 σ Pe1 k1 (-1) 2147483647 ∧ ∀ (v3 : Int) (v4 : Int), Pe1 v3 v4 → Pr v4
def lpB_S_measure_43 (nn : Nat → Nat) (p0 : Int) (v1 : Int) (Pe3 K3 : Int → kM → Prop) (v5 : Int) (s5 : kM) : Prop := iR v5 ∧ iR (s5 1 3) ∧ (((s5 1 3) ≤ v5 → Pe3 v5 s5) ∧ (¬ (s5 1 3) ≤ v5 → ∃ P1 : Int → Prop, wp_S_nearestOverColumns nn s5 v5 P1 ∧ ∀ r1 : Int, P1 r1 → (0 ≤ ((((p0 * (s5 1 3)) + v1) * (s5 1 3)) + v5) ∧ ((((p0 * (s5 1 3)) + v1) * (s5 1 3)) + v5) < (nn 9 : Int) ∧ ((((p0 * (s5 1 3)) + v1) * (s5 1 3)) + v5) < 2147483648) ∧ ∀ s7 : kM, s7 = va_up s5 9 (va_up (s5 9) ((((p0 * (s5 1 3)) + v1) * (s5 1 3)) + v5).toNat r1) → ∀ v8 : Int, v8 = v5 + 1 → K3 v8 s7))
def lp_S_measure_43 (nn : Nat → Nat) (p0 : Int) (v1 : Int) (Pe3 : Int → kM → Prop) : Nat → Int → kM → Prop
  | 0, _, _ => False
  | k + 1, v5, s5 => lpB_S_measure_43 nn p0 v1 Pe3 (lp_S_measure_43 nn p0 v1 Pe3 k) v5 s5
def lpB_S_measure_12 (nn : Nat → Nat) (p0 : Int) (v1 : Int) (Pe2 K2 : Int → kM → Prop) (v3 : Int) (s3 : kM) : Prop := iR v3 ∧ iR (s3 1 1) ∧ (((s3 1 1) < v3 → Pe2 v3 s3) ∧ (¬ (s3 1 1) < v3 → ∃ P2 : Int → Prop, wp_S_nearestInColumnOf nn s3 p0 v3 v1 P2 ∧ ∀ r2 : Int, P2 r2 → (0 ≤ (v3 + 1) ∧ (v3 + 1) < (nn 11 : Int) ∧ (v3 + 1) < 2147483648) ∧ ∀ s8 : kM, s8 = va_up s3 11 (va_up (s3 11) (v3 + 1).toNat r2) → ∀ v9 : Int, v9 = v3 + 1 → K2 v9 s8))
def lp_S_measure_12 (nn : Nat → Nat) (p0 : Int) (v1 : Int) (Pe2 : Int → kM → Prop) : Nat → Int → kM → Prop
  | 0, _, _ => False
  | k + 1, v3, s3 => lpB_S_measure_12 nn p0 v1 Pe2 (lp_S_measure_12 nn p0 v1 Pe2 k) v3 s3
def lpB_S_measure_2 (nn : Nat → Nat) (p0 : Int) (Pe1 K1 : Int → kM → Prop) (v1 : Int) (s1 : kM) : Prop := iR v1 ∧ iR (s1 1 3) ∧ (((s1 1 3) ≤ v1 → Pe1 v1 s1) ∧ (¬ (s1 1 3) ≤ v1 → ∃ (Pe2 : Int → kM → Prop) (k2 : Nat), lp_S_measure_12 nn p0 v1 Pe2 k2 (-1) s1 ∧ ∀ (v4 : Int) (s4 : kM), Pe2 v4 s4 → ∃ (Pe3 : Int → kM → Prop) (k3 : Nat), lp_S_measure_43 nn p0 v1 Pe3 k3 0 s4 ∧ ∀ (v6 : Int) (s6 : kM), Pe3 v6 s6 → ∀ v7 : Int, v7 = v1 + 1 → K1 v7 s6))
def lp_S_measure_2 (nn : Nat → Nat) (p0 : Int) (Pe1 : Int → kM → Prop) : Nat → Int → kM → Prop
  | 0, _, _ => False
  | k + 1, v1, s1 => lpB_S_measure_2 nn p0 Pe1 (lp_S_measure_2 nn p0 Pe1 k) v1 s1
def wp_S_measure (nn : Nat → Nat) (σ : kM) (p0 : Int) (Pr : kM → Prop) : Prop := ∃ (Pe1 : Int → kM → Prop) (k1 : Nat), lp_S_measure_2 nn p0 Pe1 k1 0 σ ∧ ∀ (v2 : Int) (s2 : kM), Pe1 v2 s2 → Pr s2
def jn_S_nearestAt_21 (nn : Nat → Nat) (p0 : Int) (p1 : Int) (p2 : Int) (Pr : Int → kM → Prop) (s1 : kM) : Prop := (0 ≤ ((((p0 * (s1 1 3)) + p2) * (s1 1 3)) + p1) ∧ ((((p0 * (s1 1 3)) + p2) * (s1 1 3)) + p1) < (nn 9 : Int) ∧ ((((p0 * (s1 1 3)) + p2) * (s1 1 3)) + p1) < 2147483648) ∧ Pr (s1 9 ((((p0 * (s1 1 3)) + p2) * (s1 1 3)) + p1).toNat) s1
def wp_S_nearestAt (nn : Nat → Nat) (σ : kM) (p0 : Int) (p1 : Int) (p2 : Int) (Pr : Int → kM → Prop) : Prop := (0 ≤ p0 ∧ p0 < (nn 10 : Int) ∧ p0 < 2147483648) ∧ iR (σ 10 p0.toNat) ∧ (((σ 10 p0.toNat) = 0 → jn_S_nearestAt_21 nn p0 p1 p2 Pr σ) ∧ (¬ (σ 10 p0.toNat) = 0 → ∃ P1 : kM → Prop, wp_S_measure nn σ p0 P1 ∧ ∀ s2 : kM, P1 s2 → (0 ≤ p0 ∧ p0 < (nn 10 : Int) ∧ p0 < 2147483648) ∧ ∀ s3 : kM, s3 = va_up s2 10 (va_up (s2 10) p0.toNat 0) → jn_S_nearestAt_21 nn p0 p1 p2 Pr s3))
def wp_S_count (nn : Nat → Nat) (σ : kM) (Pr : Int → Prop) : Prop := Pr (σ 1 0)
def wp_A_placeAt (nn : Nat → Nat) (σ : kM) (p0 : Int) (p1 : Int) (p2 : Int) (Pr : Int → Prop) : Prop := Pr ((p1 * (σ 1 2)) + ((p2 - p1) * p0))
def lpB_A_roomAbove_15 (nn : Nat → Nat) (p0 : Int) (p1 : Int) (p2 : Int) (p3 : Int) (p4 : Int) (Pe1 K1 : Int → Int → kM → Prop) (v2 : Int) (v3 : Int) (s1 : kM) : Prop := iR v2 ∧ ((v2 < 0 → Pe1 v2 v3 s1) ∧ (¬ v2 < 0 → iR v3 ∧ iR p0 ∧ ((v3 ≤ p0 → Pe1 v2 v3 s1) ∧ (¬ v3 ≤ p0 → ∀ v6 : Int, v6 = (p1 * (s1 1 2)) + ((p3 - p1) * v2) → ∀ v7 : Int, v7 = (p2 * (s1 1 2)) + ((p4 - p2) * v2) → ∃ P1 : Int → kM → Prop, wp_S_nearestAt nn s1 v2 v6 v7 P1 ∧ ∀ (r4 : Int) (s3 : kM), P1 r4 s3 → iR v3 ∧ iR r4 ∧ ∀ v8 : Int, v8 = (if r4 < v3 then r4 else v3) → ∀ v9 : Int, v9 = v2 + (-1) → K1 v9 v8 s3))))
def lp_A_roomAbove_15 (nn : Nat → Nat) (p0 : Int) (p1 : Int) (p2 : Int) (p3 : Int) (p4 : Int) (Pe1 : Int → Int → kM → Prop) : Nat → Int → Int → kM → Prop
  | 0, _, _, _ => False
  | k + 1, v2, v3, s1 => lpB_A_roomAbove_15 nn p0 p1 p2 p3 p4 Pe1 (lp_A_roomAbove_15 nn p0 p1 p2 p3 p4 Pe1 k) v2 v3 s1
def wp_A_roomAbove (nn : Nat → Nat) (σ : kM) (p0 : Int) (p1 : Int) (p2 : Int) (p3 : Int) (p4 : Int) (Pr : Int → kM → Prop) : Prop := ∀ v1 : Int, v1 = (σ 1 0) - 1 → ∃ (Pe1 : Int → Int → kM → Prop) (k1 : Nat), lp_A_roomAbove_15 nn p0 p1 p2 p3 p4 Pe1 k1 v1 2147483647 σ ∧ ∀ (v4 : Int) (v5 : Int) (s2 : kM), Pe1 v4 v5 s2 → Pr v5 s2
def lpB_A_seekFrom_16 (nn : Nat → Nat) (p0 : Int) (p1 : Int) (v1 : Int) (Pe2 K2 : Int → kM → Prop) (v3 : Int) (s3 : kM) : Prop := iR v3 ∧ iR (s3 1 1) ∧ (((s3 1 1) < v3 → Pe2 v3 s3) ∧ (¬ (s3 1 1) < v3 → ∃ P1 : Int → kM → Prop, wp_A_roomAbove nn s3 (s3 2 2) p0 p1 v1 v3 P1 ∧ ∀ (r3 : Int) (s5 : kM), P1 r3 s5 → iR r3 ∧ iR (s5 2 2) ∧ ((r3 ≤ (s5 2 2) → ∀ v6 : Int, v6 = v3 + 1 → K2 v6 s5) ∧ (¬ r3 ≤ (s5 2 2) → ∃ P2 : kM → Prop, wp_A_keep nn s5 r3 p0 p1 v1 v3 P2 ∧ ∀ s6 : kM, P2 s6 → ∀ v7 : Int, v7 = v3 + 1 → K2 v7 s6))))
def lp_A_seekFrom_16 (nn : Nat → Nat) (p0 : Int) (p1 : Int) (v1 : Int) (Pe2 : Int → kM → Prop) : Nat → Int → kM → Prop
  | 0, _, _ => False
  | k + 1, v3, s3 => lpB_A_seekFrom_16 nn p0 p1 v1 Pe2 (lp_A_seekFrom_16 nn p0 p1 v1 Pe2 k) v3 s3
def lpB_A_seekFrom_2 (nn : Nat → Nat) (p0 : Int) (p1 : Int) (Pe1 K1 : Int → kM → Prop) (v1 : Int) (s1 : kM) : Prop := iR v1 ∧ iR (s1 1 1) ∧ (((s1 1 1) < v1 → Pe1 v1 s1) ∧ (¬ (s1 1 1) < v1 → ∃ (Pe2 : Int → kM → Prop) (k2 : Nat), lp_A_seekFrom_16 nn p0 p1 v1 Pe2 k2 0 s1 ∧ ∀ (v4 : Int) (s4 : kM), Pe2 v4 s4 → ∀ v5 : Int, v5 = v1 + 1 → K1 v5 s4))
def lp_A_seekFrom_2 (nn : Nat → Nat) (p0 : Int) (p1 : Int) (Pe1 : Int → kM → Prop) : Nat → Int → kM → Prop
  | 0, _, _ => False
  | k + 1, v1, s1 => lpB_A_seekFrom_2 nn p0 p1 Pe1 (lp_A_seekFrom_2 nn p0 p1 Pe1 k) v1 s1
def wp_A_seekFrom (nn : Nat → Nat) (σ : kM) (p0 : Int) (p1 : Int) (Pr : kM → Prop) : Prop := ∃ (Pe1 : Int → kM → Prop) (k1 : Nat), lp_A_seekFrom_2 nn p0 p1 Pe1 k1 0 σ ∧ ∀ (v2 : Int) (s2 : kM), Pe1 v2 s2 → Pr s2
def lpB_A_seek_24 (nn : Nat → Nat) (v1 : Int) (Pe2 K2 : Int → kM → Prop) (v3 : Int) (s4 : kM) : Prop := iR v3 ∧ iR (s4 1 1) ∧ (((s4 1 1) < v3 → Pe2 v3 s4) ∧ (¬ (s4 1 1) < v3 → ∃ P2 : Int → kM → Prop, wp_S_nearestAt nn s4 0 (v1 * (s4 1 2)) (v3 * (s4 1 2)) P2 ∧ ∀ (r5 : Int) (s6 : kM), P2 r5 s6 → iR r5 ∧ iR (s6 2 2) ∧ ((r5 ≤ (s6 2 2) → ∀ v6 : Int, v6 = v3 + 1 → K2 v6 s6) ∧ (¬ r5 ≤ (s6 2 2) → ∃ P3 : kM → Prop, wp_A_seekFrom nn s6 v1 v3 P3 ∧ ∀ s7 : kM, P3 s7 → ∀ v7 : Int, v7 = v3 + 1 → K2 v7 s7))))
def lp_A_seek_24 (nn : Nat → Nat) (v1 : Int) (Pe2 : Int → kM → Prop) : Nat → Int → kM → Prop
  | 0, _, _ => False
  | k + 1, v3, s4 => lpB_A_seek_24 nn v1 Pe2 (lp_A_seek_24 nn v1 Pe2 k) v3 s4
def lpB_A_seek_11 (nn : Nat → Nat) (Pe1 K1 : Int → kM → Prop) (v1 : Int) (s2 : kM) : Prop := iR v1 ∧ iR (s2 1 1) ∧ (((s2 1 1) < v1 → Pe1 v1 s2) ∧ (¬ (s2 1 1) < v1 → ∃ (Pe2 : Int → kM → Prop) (k2 : Nat), lp_A_seek_24 nn v1 Pe2 k2 0 s2 ∧ ∀ (v4 : Int) (s5 : kM), Pe2 v4 s5 → ∀ v5 : Int, v5 = v1 + 1 → K1 v5 s5))
def lp_A_seek_11 (nn : Nat → Nat) (Pe1 : Int → kM → Prop) : Nat → Int → kM → Prop
  | 0, _, _ => False
  | k + 1, v1, s2 => lpB_A_seek_11 nn Pe1 (lp_A_seek_11 nn Pe1 k) v1 s2
def wp_A_seek (nn : Nat → Nat) (σ : kM) (Pr : kM → Prop) : Prop := ∃ P1 : kM → Prop, wp_A_keep nn σ 0 0 0 0 0 P1 ∧ ∀ s1 : kM, P1 s1 → ∃ (Pe1 : Int → kM → Prop) (k1 : Nat), lp_A_seek_11 nn Pe1 k1 0 s1 ∧ ∀ (v2 : Int) (s3 : kM), Pe1 v2 s3 → Pr s3
def wp_A_seekIfStale (nn : Nat → Nat) (σ : kM) (Pr : kM → Prop) : Prop := iR (σ 2 3) ∧ (((σ 2 3) = 0 → Pr σ) ∧ (¬ (σ 2 3) = 0 → ∃ P1 : kM → Prop, wp_A_seek nn σ P1 ∧ ∀ s1 : kM, P1 s1 → ∀ s2 : kM, s2 = va_up s1 2 (va_up (s1 2) 3 0) → Pr s2))
def wp_A_greatestRoom (nn : Nat → Nat) (σ : kM) (Pr : Int → kM → Prop) : Prop := ∃ P1 : kM → Prop, wp_A_seekIfStale nn σ P1 ∧ ∀ s1 : kM, P1 s1 → Pr (s1 2 2) s1
def wp_P_room (nn : Nat → Nat) (σ : kM) (Pr : Int → kM → Prop) : Prop := ∃ P1 : Int → kM → Prop, wp_A_greatestRoom nn σ P1 ∧ ∀ (r1 : Int) (s1 : kM), P1 r1 s1 → Pr r1 s1
def wp_A_number (nn : Nat → Nat) (σ : kM) (p0 : Int) (Pr : Int → kM → Prop) : Prop := ∃ P1 : kM → Prop, wp_A_seekIfStale nn σ P1 ∧ ∀ s1 : kM, P1 s1 → (0 ≤ p0 ∧ p0 < 4 ∧ p0 < 2147483648) ∧ Pr (s1 12 p0.toNat) s1
def wp_P_axis (nn : Nat → Nat) (σ : kM) (p0 : Int) (Pr : Int → kM → Prop) (Px : Nat → kM → Prop) : Prop := ∃ P1 : Int → Prop, wp_P_isWithin nn σ p0 0 3 P1 ∧ ∀ r1 : Int, P1 r1 → iR r1 ∧ ((¬ r1 = 0 → ∃ P2 : Int → kM → Prop, wp_A_number nn σ p0 P2 ∧ ∀ (r2 : Int) (s1 : kM), P2 r2 s1 → Pr r2 s1) ∧ (r1 = 0 → Px 0 σ))
def lpB_A_rootOf_6 (nn : Nat → Nat) (p0 : Int) (Pe1 K1 : Int → Int → Prop) (v1 : Int) (v2 : Int) : Prop := iR v1 ∧ ((v1 ≤ 0 → Pe1 v1 v2) ∧ (¬ v1 ≤ 0 → ∀ v5 : Int, v5 = v2 + v1 → iR (v5 * v5) ∧ iR p0 ∧ ((p0 < (v5 * v5) → ∀ v6 : Int, v6 = kShr v1 1 → K1 v6 v2) ∧ (¬ p0 < (v5 * v5) → ∀ v7 : Int, v7 = kShr v1 1 → K1 v7 v5))))
def lp_A_rootOf_6 (nn : Nat → Nat) (p0 : Int) (Pe1 : Int → Int → Prop) : Nat → Int → Int → Prop
  | 0, _, _ => False
  | k + 1, v1, v2 => lpB_A_rootOf_6 nn p0 Pe1 (lp_A_rootOf_6 nn p0 Pe1 k) v1 v2
def wp_A_rootOf (nn : Nat → Nat) (σ : kM) (p0 : Int) (Pr : Int → Prop) : Prop := ∃ (Pe1 : Int → Int → Prop) (k1 : Nat), lp_A_rootOf_6 nn p0 Pe1 k1 1024 0 ∧ ∀ (v3 : Int) (v4 : Int), Pe1 v3 v4 → Pr v4
def wp_A_greatestRadius (nn : Nat → Nat) (σ : kM) (Pr : Int → kM → Prop) : Prop := ∃ P1 : kM → Prop, wp_A_seekIfStale nn σ P1 ∧ ∀ s1 : kM, P1 s1 → ∃ P2 : Int → Prop, wp_A_rootOf nn s1 ((s1 2 2) * 10000) P2 ∧ ∀ r1 : Int, P2 r1 → (iR r1 ∧ iR (s1 1 2) ∧ 0 ≤ r1 ∧ 0 < (s1 1 2)) ∧ Pr (r1 / (s1 1 2)) s1
def wp_P_radius (nn : Nat → Nat) (σ : kM) (Pr : Int → kM → Prop) : Prop := ∃ P1 : Int → kM → Prop, wp_A_greatestRadius nn σ P1 ∧ ∀ (r1 : Int) (s1 : kM), P1 r1 s1 → Pr r1 s1
def wp_S_hasCorner (nn : Nat → Nat) (σ : kM) (p0 : Int) (p1 : Int) (Pr : Int → Prop) : Prop := ∃ P1 : Int → Prop, wp_P_isWithin nn σ p0 0 (σ 1 1) P1 ∧ ∀ r1 : Int, P1 r1 → iR r1 ∧ ((r1 = 0 → Pr 0) ∧ (¬ r1 = 0 → ∃ P2 : Int → Prop, wp_P_isWithin nn σ p1 0 (σ 1 1) P2 ∧ ∀ r2 : Int, P2 r2 → iR r2 ∧ ((r2 = 0 → Pr 0) ∧ (¬ r2 = 0 → Pr 1))))
def wp_A_exactRoom (nn : Nat → Nat) (σ : kM) (p0 : Int) (p1 : Int) (p2 : Int) (p3 : Int) (Pr : Int → kM → Prop) : Prop := ∃ P1 : Int → kM → Prop, wp_A_roomAbove nn σ 0 p0 p1 p2 p3 P1 ∧ ∀ (r1 : Int) (s1 : kM), P1 r1 s1 → Pr r1 s1
def wp_P_roomOf (nn : Nat → Nat) (σ : kM) (p0 : Int) (p1 : Int) (p2 : Int) (p3 : Int) (Pr : Int → kM → Prop) (Px : Nat → kM → Prop) : Prop := ∃ P1 : Int → Prop, wp_S_hasCorner nn σ p0 p1 P1 ∧ ∀ r1 : Int, P1 r1 → iR r1 ∧ ((r1 = 0 → Px 0 σ) ∧ (¬ r1 = 0 → ∃ P2 : Int → Prop, wp_S_hasCorner nn σ p2 p3 P2 ∧ ∀ r2 : Int, P2 r2 → iR r2 ∧ ((¬ r2 = 0 → ∃ P3 : Int → kM → Prop, wp_A_exactRoom nn σ p0 p1 p2 p3 P3 ∧ ∀ (r3 : Int) (s1 : kM), P3 r3 s1 → Pr r3 s1) ∧ (r2 = 0 → Px 0 σ))))
def wp_R_peelOff (nn : Nat → Nat) (σ : kM) (p0 : Int) (p1 : Int) (p2 : Int) (Pr : kM → Prop) : Prop := ∀ s1 : kM, s1 = va_up σ 3 (va_up (σ 3) 1 p0) → iR p1 ∧ ∀ s2 : kM, s2 = va_up s1 3 (va_up (s1 3) 2 (if 1 < p1 then p1 else 1)) → iR (s2 3 1) ∧ iR p2 ∧ ((p2 ≤ (s2 3 1) → (iR ((s2 3 1) - p2) ∧ iR (s2 3 2) ∧ 0 ≤ ((s2 3 1) - p2) ∧ 0 < (s2 3 2)) ∧ ∀ s3 : kM, s3 = va_up s2 3 (va_up (s2 3) 3 (((s2 3 1) - p2) / (s2 3 2))) → ∀ s4 : kM, s4 = va_up s3 3 (va_up (s3 3) 0 1) → Pr s4) ∧ (¬ p2 ≤ (s2 3 1) → ∀ s5 : kM, s5 = va_up s2 3 (va_up (s2 3) 3 0) → ∀ s6 : kM, s6 = va_up s5 3 (va_up (s5 3) 0 1) → Pr s6))
def wp_R_turns (nn : Nat → Nat) (σ : kM) (Pr : Int → Prop) : Prop := Pr (σ 3 3)
def wp_P_peel (nn : Nat → Nat) (σ : kM) (p0 : Int) (p1 : Int) (Pr : Int → kM → Prop) (Px : Nat → kM → Prop) : Prop := ∃ P1 : Int → Prop, wp_P_isWithin nn σ p0 1 1000 P1 ∧ ∀ r1 : Int, P1 r1 → iR r1 ∧ ((r1 = 0 → Px 1 σ) ∧ (¬ r1 = 0 → ∃ P2 : Int → Prop, wp_P_isWithin nn σ p1 0 1000 P2 ∧ ∀ r2 : Int, P2 r2 → iR r2 ∧ ((¬ r2 = 0 → ∃ P3 : Int → kM → Prop, wp_A_greatestRadius nn σ P3 ∧ ∀ (r3 : Int) (s1 : kM), P3 r3 s1 → ∃ P4 : kM → Prop, wp_R_peelOff nn s1 r3 p0 p1 P4 ∧ ∀ s2 : kM, P4 s2 → ∃ P5 : kM → Prop, wp_C_forget nn s2 P5 ∧ ∀ s3 : kM, P5 s3 → Pr (s3 3 3) s3) ∧ (r2 = 0 → Px 1 σ))))
def wp_R_isPeeled (nn : Nat → Nat) (σ : kM) (Pr : Int → Prop) : Prop := (σ 3 0 = 0 ∨ σ 3 0 = 1) ∧ Pr (σ 3 0)
def wp_R_roundOf (nn : Nat → Nat) (σ : kM) (p0 : Int) (Pr : Int → Prop) : Prop := (iR (p0 * 710) ∧ 0 ≤ (p0 * 710)) ∧ Pr ((p0 * 710) / 113)
def wp_R_lengthBefore (nn : Nat → Nat) (σ : kM) (p0 : Int) (Pr : Int → Prop) : Prop := (iR (p0 * (p0 - 1)) ∧ 0 ≤ (p0 * (p0 - 1))) ∧ ∀ v1 : Int, v1 = (p0 * (σ 3 1)) - ((σ 3 2) * ((p0 * (p0 - 1)) / 2)) → ∃ P1 : Int → Prop, wp_R_roundOf nn σ v1 P1 ∧ ∀ r1 : Int, P1 r1 → Pr r1
def wp_P_before (nn : Nat → Nat) (σ : kM) (p0 : Int) (Pr : Int → kM → Prop) (Px : Nat → kM → Prop) : Prop := ∃ P1 : Int → Prop, wp_R_isPeeled nn σ P1 ∧ ∀ r1 : Int, P1 r1 → iR r1 ∧ ((¬ r1 = 0 → ∃ P2 : Int → Prop, wp_P_isWithin nn σ p0 0 (σ 3 3) P2 ∧ ∀ r3 : Int, P2 r3 → iR r3 ∧ ((¬ r3 = 0 → ∃ P3 : Int → Prop, wp_R_lengthBefore nn σ p0 P3 ∧ ∀ r4 : Int, P3 r4 → Pr r4 σ) ∧ (r3 = 0 → Px 0 σ))) ∧ (r1 = 0 → Px 2 σ))
def wp_P_isKind (nn : Nat → Nat) (σ : kM) (p0 : Int) (Pr : Int → Prop) : Prop := ∃ P1 : Int → Prop, wp_P_isWithin nn σ p0 0 3 P1 ∧ ∀ r1 : Int, P1 r1 → (r1 = 0 ∨ r1 = 1) ∧ Pr r1
def wp_F_isFull (nn : Nat → Nat) (σ : kM) (Pr : Int → Prop) : Prop := iR (σ 4 3) ∧ (((σ 4 3) < 16 → Pr 0) ∧ (¬ (σ 4 3) < 16 → Pr 1))
def wp_F_add (nn : Nat → Nat) (σ : kM) (p0 : Int) (p1 : Int) (p2 : Int) (Pr : Int → kM → Prop) : Prop := (0 ≤ (σ 4 3) ∧ (σ 4 3) < 16 ∧ (σ 4 3) < 2147483648) ∧ ∀ s1 : kM, s1 = va_up σ 13 (va_up (σ 13) (σ 4 3).toNat p0) → (0 ≤ (s1 4 3) ∧ (s1 4 3) < 16 ∧ (s1 4 3) < 2147483648) ∧ ∀ s2 : kM, s2 = va_up s1 14 (va_up (s1 14) (s1 4 3).toNat p1) → (0 ≤ (s2 4 3) ∧ (s2 4 3) < 16 ∧ (s2 4 3) < 2147483648) ∧ ∀ s3 : kM, s3 = va_up s2 15 (va_up (s2 15) (s2 4 3).toNat p2) → ∀ s4 : kM, s4 = va_up s3 4 (va_up (s3 4) 3 ((s3 4 3) + 1)) → Pr ((s4 4 3) - 1) s4
def wp_P_fault (nn : Nat → Nat) (σ : kM) (p0 : Int) (p1 : Int) (p2 : Int) (Pr : Int → kM → Prop) (Px : Nat → kM → Prop) : Prop := ∃ P1 : Int → Prop, wp_P_isWithin nn σ p0 0 359 P1 ∧ ∀ r1 : Int, P1 r1 → iR r1 ∧ ((r1 = 0 → Px 1 σ) ∧ (¬ r1 = 0 → ∃ P2 : Int → Prop, wp_P_isWithin nn σ p1 0 1000 P2 ∧ ∀ r2 : Int, P2 r2 → iR r2 ∧ ((r2 = 0 → Px 1 σ) ∧ (¬ r2 = 0 → ∃ P3 : Int → Prop, wp_P_isKind nn σ p2 P3 ∧ ∀ r3 : Int, P3 r3 → iR r3 ∧ ((¬ r3 = 0 → ∃ P4 : Int → Prop, wp_F_isFull nn σ P4 ∧ ∀ r4 : Int, P4 r4 → iR r4 ∧ ((r4 = 0 → ∃ P5 : kM → Prop, wp_C_forget nn σ P5 ∧ ∀ s1 : kM, P5 s1 → ∃ P6 : Int → kM → Prop, wp_F_add nn s1 p0 p1 p2 P6 ∧ ∀ (r5 : Int) (s2 : kM), P6 r5 s2 → Pr r5 s2) ∧ (¬ r4 = 0 → Px 2 σ))) ∧ (r3 = 0 → Px 1 σ))))))
def wp_F_has (nn : Nat → Nat) (σ : kM) (p0 : Int) (Pr : Int → Prop) : Prop := ∃ P1 : Int → Prop, wp_P_isWithin nn σ p0 0 ((σ 4 3) - 1) P1 ∧ ∀ r1 : Int, P1 r1 → (r1 = 0 ∨ r1 = 1) ∧ Pr r1
def wp_R_placeOf (nn : Nat → Nat) (σ : kM) (p0 : Int) (p1 : Int) (Pr : Int → Prop) : Prop := iR p1 ∧ iR (σ 3 1) ∧ (((σ 3 1) < p1 → Pr (-1)) ∧ (¬ (σ 3 1) < p1 → iR p1 ∧ iR ((σ 3 1) - ((σ 3 3) * (σ 3 2))) ∧ ((((σ 3 1) - ((σ 3 3) * (σ 3 2))) < p1 → (iR ((σ 3 1) - p1) ∧ iR (σ 3 2) ∧ 0 ≤ ((σ 3 1) - p1) ∧ 0 < (σ 3 2)) ∧ ∀ v1 : Int, v1 = ((σ 3 1) - p1) / (σ 3 2) → ∃ P1 : Int → Prop, wp_R_lengthBefore nn σ v1 P1 ∧ ∀ r1 : Int, P1 r1 → ∃ P2 : Int → Prop, wp_R_roundOf nn σ ((σ 3 1) - (v1 * (σ 3 2))) P2 ∧ ∀ r2 : Int, P2 r2 → (iR (r2 * p0) ∧ 0 ≤ (r2 * p0)) ∧ Pr (r1 + ((r2 * p0) / 360))) ∧ (¬ ((σ 3 1) - ((σ 3 3) * (σ 3 2))) < p1 → Pr (-1)))))
def wp_F_placeIn (nn : Nat → Nat) (σ : kM) (p1 : Int) (Pr : Int → Prop) : Prop := (0 ≤ p1 ∧ p1 < 16 ∧ p1 < 2147483648) ∧ (0 ≤ p1 ∧ p1 < 16 ∧ p1 < 2147483648) ∧ ∃ P1 : Int → Prop, wp_R_placeOf nn σ (σ 13 p1.toNat) (σ 14 p1.toNat) P1 ∧ ∀ r1 : Int, P1 r1 → Pr r1
def wp_P_unrolled (nn : Nat → Nat) (σ : kM) (p0 : Int) (Pr : Int → kM → Prop) (Px : Nat → kM → Prop) : Prop := ∃ P1 : Int → Prop, wp_F_has nn σ p0 P1 ∧ ∀ r1 : Int, P1 r1 → iR r1 ∧ ((¬ r1 = 0 → ∃ P2 : Int → Prop, wp_R_isPeeled nn σ P2 ∧ ∀ r2 : Int, P2 r2 → iR r2 ∧ ((¬ r2 = 0 → ∃ P3 : Int → Prop, wp_F_placeIn nn σ p0 P3 ∧ ∀ r3 : Int, P3 r3 → Pr r3 σ) ∧ (r2 = 0 → Px 2 σ))) ∧ (r1 = 0 → Px 0 σ))
def wp_L_isFull (nn : Nat → Nat) (σ : kM) (Pr : Int → Prop) : Prop := iR (σ 5 3) ∧ (((σ 5 3) < 6 → Pr 0) ∧ (¬ (σ 5 3) < 6 → Pr 1))
def wp_L_add (nn : Nat → Nat) (σ : kM) (p0 : Int) (p1 : Int) (Pr : Int → kM → Prop) : Prop := (0 ≤ (σ 5 3) ∧ (σ 5 3) < 6 ∧ (σ 5 3) < 2147483648) ∧ ∀ s1 : kM, s1 = va_up σ 16 (va_up (σ 16) (σ 5 3).toNat p0) → (0 ≤ (s1 5 3) ∧ (s1 5 3) < 6 ∧ (s1 5 3) < 2147483648) ∧ ∀ s2 : kM, s2 = va_up s1 17 (va_up (s1 17) (s1 5 3).toNat p1) → ∀ s3 : kM, s3 = va_up s2 5 (va_up (s2 5) 3 ((s2 5 3) + 1)) → Pr ((s3 5 3) - 1) s3
def wp_P_leaf (nn : Nat → Nat) (σ : kM) (p0 : Int) (p1 : Int) (Pr : Int → kM → Prop) (Px : Nat → kM → Prop) : Prop := ∃ P1 : Int → Prop, wp_P_isWithin nn σ p0 1 500 P1 ∧ ∀ r1 : Int, P1 r1 → iR r1 ∧ ((r1 = 0 → Px 1 σ) ∧ (¬ r1 = 0 → ∃ P2 : Int → Prop, wp_P_isWithin nn σ p1 0 1000000 P2 ∧ ∀ r2 : Int, P2 r2 → iR r2 ∧ ((¬ r2 = 0 → ∃ P3 : Int → Prop, wp_L_isFull nn σ P3 ∧ ∀ r3 : Int, P3 r3 → iR r3 ∧ ((r3 = 0 → ∃ P4 : kM → Prop, wp_C_forget nn σ P4 ∧ ∀ s1 : kM, P4 s1 → ∃ P5 : Int → kM → Prop, wp_L_add nn s1 p0 p1 P5 ∧ ∀ (r4 : Int) (s2 : kM), P5 r4 s2 → Pr r4 s2) ∧ (¬ r3 = 0 → Px 2 σ))) ∧ (r2 = 0 → Px 1 σ))))
def wp_L_has (nn : Nat → Nat) (σ : kM) (p0 : Int) (Pr : Int → Prop) : Prop := ∃ P1 : Int → Prop, wp_P_isWithin nn σ p0 0 ((σ 5 3) - 1) P1 ∧ ∀ r1 : Int, P1 r1 → (r1 = 0 ∨ r1 = 1) ∧ Pr r1
def wp_L_barsAny (nn : Nat → Nat) (σ : kM) (p0 : Int) (p1 : Int) (Pr : Int → Prop) : Prop := (0 ≤ p0 ∧ p0 < 6 ∧ p0 < 2147483648) ∧ iR (kAnd (σ 18 p0.toNat) p1) ∧ (((kAnd (σ 18 p0.toNat) p1) = 0 → Pr 0) ∧ (¬ (kAnd (σ 18 p0.toNat) p1) = 0 → Pr 1))
def jn_L_tellBar_17 (nn : Nat → Nat) (p0 : Int) (p1 : Int) (σ : kM) (Pr : Int → kM → Prop) (v1 : Int) : Prop := iR v1 ∧ ((v1 = 0 → (v1 = 0 ∨ v1 = 1) ∧ Pr v1 σ) ∧ (¬ v1 = 0 → (0 ≤ p0 ∧ p0 < 6 ∧ p0 < 2147483648) ∧ (0 ≤ p0 ∧ p0 < 6 ∧ p0 < 2147483648) ∧ ∀ s1 : kM, s1 = va_up σ 18 (va_up (σ 18) p0.toNat (kXor (σ 18 p0.toNat) (kShl 1 p1))) → (v1 = 0 ∨ v1 = 1) ∧ Pr v1 s1))
def wp_L_tellBar (nn : Nat → Nat) (σ : kM) (p0 : Int) (p1 : Int) (p2 : Int) (Pr : Int → kM → Prop) : Prop := ∃ P1 : Int → Prop, wp_L_barsAny nn σ p0 (kShl 1 p1) P1 ∧ ∀ r1 : Int, P1 r1 → iR r1 ∧ iR p2 ∧ ((r1 = p2 → jn_L_tellBar_17 nn p0 p1 σ Pr 0) ∧ (¬ r1 = p2 → jn_L_tellBar_17 nn p0 p1 σ Pr 1))
def wp_P_bars (nn : Nat → Nat) (σ : kM) (p0 : Int) (p1 : Int) (p2 : Int) (Pr : Int → kM → Prop) (Px : Nat → kM → Prop) : Prop := ∃ P1 : Int → Prop, wp_L_has nn σ p0 P1 ∧ ∀ r1 : Int, P1 r1 → iR r1 ∧ ((r1 = 0 → Px 0 σ) ∧ (¬ r1 = 0 → ∃ P2 : Int → Prop, wp_P_isKind nn σ p1 P2 ∧ ∀ r2 : Int, P2 r2 → iR r2 ∧ ((¬ r2 = 0 → ∃ P3 : Int → kM → Prop, wp_L_tellBar nn σ p0 p1 p2 P3 ∧ ∀ (r3 : Int) (s1 : kM), P3 r3 s1 → iR r3 ∧ ((r3 = 0 → (r3 = 0 ∨ r3 = 1) ∧ Pr r3 s1) ∧ (¬ r3 = 0 → ∃ P4 : kM → Prop, wp_C_forget nn s1 P4 ∧ ∀ s2 : kM, P4 s2 → (r3 = 0 ∨ r3 = 1) ∧ Pr r3 s2))) ∧ (r2 = 0 → Px 0 σ))))
def wp_R_length (nn : Nat → Nat) (σ : kM) (Pr : Int → Prop) : Prop := ∃ P1 : Int → Prop, wp_R_lengthBefore nn σ (σ 3 3) P1 ∧ ∀ r1 : Int, P1 r1 → Pr r1
def wp_F_count (nn : Nat → Nat) (σ : kM) (Pr : Int → Prop) : Prop := Pr (σ 4 3)
def wp_F_kindBit (nn : Nat → Nat) (σ : kM) (p0 : Int) (Pr : Int → Prop) : Prop := (0 ≤ p0 ∧ p0 < 16 ∧ p0 < 2147483648) ∧ Pr (kShl 1 (σ 15 p0.toNat))
def lpB_C_markFaults_29 (nn : Nat → Nat) (p2 : Int) (Pe2 K2 : Int → kM → Prop) (v3 : Int) (s3 : kM) : Prop := iR v3 ∧ iR (s3 4 3) ∧ (((s3 4 3) ≤ v3 → Pe2 v3 s3) ∧ (¬ (s3 4 3) ≤ v3 → ∃ P1 : Int → Prop, wp_F_placeIn nn s3 v3 P1 ∧ ∀ r2 : Int, P1 r2 → iR r2 ∧ ((r2 = (-1) → ∀ v5 : Int, v5 = v3 + 1 → K2 v5 s3) ∧ (¬ r2 = (-1) → (iR r2 ∧ iR p2 ∧ 0 ≤ r2 ∧ 0 < p2) ∧ iR (r2 / p2) ∧ iR (s3 6 6) ∧ (((s3 6 6) ≤ (r2 / p2) → ∀ v6 : Int, v6 = v3 + 1 → K2 v6 s3) ∧ (¬ (s3 6 6) ≤ (r2 / p2) → (iR r2 ∧ iR p2 ∧ 0 ≤ r2 ∧ 0 < p2) ∧ (0 ≤ (r2 / p2) ∧ (r2 / p2) < 2000 ∧ (r2 / p2) < 2147483648) ∧ ∃ P2 : Int → Prop, wp_F_kindBit nn s3 v3 P2 ∧ ∀ r3 : Int, P2 r3 → (0 ≤ (r2 / p2) ∧ (r2 / p2) < 2000 ∧ (r2 / p2) < 2147483648) ∧ ∀ s5 : kM, s5 = va_up s3 19 (va_up (s3 19) (r2 / p2).toNat (kOr (s3 19 (r2 / p2).toNat) r3)) → ∀ v7 : Int, v7 = v3 + 1 → K2 v7 s5))))))
def lp_C_markFaults_29 (nn : Nat → Nat) (p2 : Int) (Pe2 : Int → kM → Prop) : Nat → Int → kM → Prop
  | 0, _, _ => False
  | k + 1, v3, s3 => lpB_C_markFaults_29 nn p2 Pe2 (lp_C_markFaults_29 nn p2 Pe2 k) v3 s3
def lpB_C_markFaults_3 (nn : Nat → Nat) (Pe1 K1 : Int → kM → Prop) (v1 : Int) (s1 : kM) : Prop := iR v1 ∧ iR (s1 6 6) ∧ (((s1 6 6) ≤ v1 → Pe1 v1 s1) ∧ (¬ (s1 6 6) ≤ v1 → (0 ≤ v1 ∧ v1 < 2000 ∧ v1 < 2147483648) ∧ ∀ s6 : kM, s6 = va_up s1 19 (va_up (s1 19) v1.toNat 0) → ∀ v8 : Int, v8 = v1 + 1 → K1 v8 s6))
def lp_C_markFaults_3 (nn : Nat → Nat) (Pe1 : Int → kM → Prop) : Nat → Int → kM → Prop
  | 0, _, _ => False
  | k + 1, v1, s1 => lpB_C_markFaults_3 nn Pe1 (lp_C_markFaults_3 nn Pe1 k) v1 s1
def wp_C_markFaults (nn : Nat → Nat) (σ : kM) (p2 : Int) (Pr : kM → Prop) : Prop := ∃ (Pe1 : Int → kM → Prop) (k1 : Nat), lp_C_markFaults_3 nn Pe1 k1 0 σ ∧ ∀ (v2 : Int) (s2 : kM), Pe1 v2 s2 → ∃ (Pe2 : Int → kM → Prop) (k2 : Nat), lp_C_markFaults_29 nn p2 Pe2 k2 0 s2 ∧ ∀ (v4 : Int) (s4 : kM), Pe2 v4 s4 → Pr s4
def wp_L_count (nn : Nat → Nat) (σ : kM) (Pr : Int → Prop) : Prop := Pr (σ 5 3)
def wp_L_width (nn : Nat → Nat) (σ : kM) (p0 : Int) (Pr : Int → Prop) : Prop := (0 ≤ p0 ∧ p0 < 6 ∧ p0 < 2147483648) ∧ Pr (σ 16 p0.toNat)
def wp_L_worth (nn : Nat → Nat) (σ : kM) (p0 : Int) (Pr : Int → Prop) : Prop := (0 ≤ p0 ∧ p0 < 6 ∧ p0 < 2147483648) ∧ Pr (σ 17 p0.toNat)
def wp_C_tryLeaf (nn : Nat → Nat) (σ : kM) (p0 : Int) (p1 : Int) (p2 : Int) (Pr : kM → Prop) : Prop := (0 ≤ p0 ∧ p0 < 2001 ∧ p0 < 2147483648) ∧ (lR p2 ∧ lR (σ 20 p0.toNat)) ∧ (((if (σ 20 p0.toNat) < p2 then 1 else if p2 = (σ 20 p0.toNat) then 0 else -1) < 0 → Pr σ) ∧ (¬ (if (σ 20 p0.toNat) < p2 then 1 else if p2 = (σ 20 p0.toNat) then 0 else -1) < 0 → (0 ≤ p0 ∧ p0 < 2001 ∧ p0 < 2147483648) ∧ ∀ s1 : kM, s1 = va_up σ 20 (va_up (σ 20) p0.toNat p2) → (0 ≤ p0 ∧ p0 < 2000 ∧ p0 < 2147483648) ∧ ∀ s2 : kM, s2 = va_up s1 21 (va_up (s1 21) p0.toNat p1) → Pr s2))
def jn_C_chooseAt_55 (nn : Nat → Nat) (p0 : Int) (v2 : Int) (K1 : Int → kM → Prop) (s5 : kM) : Prop := ∃ P2 : Int → Prop, wp_L_width nn s5 v2 P2 ∧ ∀ r3 : Int, P2 r3 → ∀ v4 : Int, v4 = p0 + r3 → (0 ≤ v2 ∧ v2 < 6 ∧ v2 < 2147483648) ∧ iR v4 ∧ iR (s5 23 v2.toNat) ∧ (((s5 23 v2.toNat) < v4 → ∀ v5 : Int, v5 = v2 + (-1) → K1 v5 s5) ∧ (¬ (s5 23 v2.toNat) < v4 → ∃ P3 : Int → Prop, wp_L_worth nn s5 v2 P3 ∧ ∀ r4 : Int, P3 r4 → iR r4 ∧ (0 ≤ v4 ∧ v4 < 2001 ∧ v4 < 2147483648) ∧ ∃ P4 : kM → Prop, wp_C_tryLeaf nn s5 p0 v2 ((r4 * 2001) + (s5 20 v4.toNat)) P4 ∧ ∀ s6 : kM, P4 s6 → ∀ v6 : Int, v6 = v2 + (-1) → K1 v6 s6))
def lpB_C_chooseAt_30 (nn : Nat → Nat) (p0 : Int) (Pe1 K1 : Int → kM → Prop) (v2 : Int) (s3 : kM) : Prop := iR v2 ∧ ((v2 < 0 → Pe1 v2 s3) ∧ (¬ v2 < 0 → (0 ≤ p0 ∧ p0 < 2000 ∧ p0 < 2147483648) ∧ ∃ P1 : Int → Prop, wp_L_barsAny nn s3 v2 (s3 19 p0.toNat) P1 ∧ ∀ r2 : Int, P1 r2 → iR r2 ∧ ((r2 = 0 → jn_C_chooseAt_55 nn p0 v2 K1 s3) ∧ (¬ r2 = 0 → (0 ≤ v2 ∧ v2 < 6 ∧ v2 < 2147483648) ∧ ∀ s7 : kM, s7 = va_up s3 23 (va_up (s3 23) v2.toNat p0) → jn_C_chooseAt_55 nn p0 v2 K1 s7))))
def lp_C_chooseAt_30 (nn : Nat → Nat) (p0 : Int) (Pe1 : Int → kM → Prop) : Nat → Int → kM → Prop
  | 0, _, _ => False
  | k + 1, v2, s3 => lpB_C_chooseAt_30 nn p0 Pe1 (lp_C_chooseAt_30 nn p0 Pe1 k) v2 s3
def wp_C_chooseAt (nn : Nat → Nat) (σ : kM) (p0 : Int) (Pr : kM → Prop) : Prop := (0 ≤ (p0 + 1) ∧ (p0 + 1) < 2001 ∧ (p0 + 1) < 2147483648) ∧ (0 ≤ p0 ∧ p0 < 2001 ∧ p0 < 2147483648) ∧ ∀ s1 : kM, s1 = va_up σ 20 (va_up (σ 20) p0.toNat ((σ 20 (p0 + 1).toNat) - 1)) → (0 ≤ p0 ∧ p0 < 2000 ∧ p0 < 2147483648) ∧ ∀ s2 : kM, s2 = va_up s1 21 (va_up (s1 21) p0.toNat (-1)) → ∀ v1 : Int, v1 = (s2 5 3) - 1 → ∃ (Pe1 : Int → kM → Prop) (k1 : Nat), lp_C_chooseAt_30 nn p0 Pe1 k1 v1 s2 ∧ ∀ (v3 : Int) (s4 : kM), Pe1 v3 s4 → Pr s4
def lpB_C_chooseFromTheEnd_43 (nn : Nat → Nat) (Pe2 K2 : Int → kM → Prop) (v4 : Int) (s4 : kM) : Prop := iR v4 ∧ ((v4 < 0 → Pe2 v4 s4) ∧ (¬ v4 < 0 → ∃ P1 : kM → Prop, wp_C_chooseAt nn s4 v4 P1 ∧ ∀ s6 : kM, P1 s6 → ∀ v6 : Int, v6 = v4 + (-1) → K2 v6 s6))
def lp_C_chooseFromTheEnd_43 (nn : Nat → Nat) (Pe2 : Int → kM → Prop) : Nat → Int → kM → Prop
  | 0, _, _ => False
  | k + 1, v4, s4 => lpB_C_chooseFromTheEnd_43 nn Pe2 (lp_C_chooseFromTheEnd_43 nn Pe2 k) v4 s4
def lpB_C_chooseFromTheEnd_2 (nn : Nat → Nat) (Pe1 K1 : Int → kM → Prop) (v1 : Int) (s1 : kM) : Prop := iR v1 ∧ iR (s1 5 3) ∧ (((s1 5 3) ≤ v1 → Pe1 v1 s1) ∧ (¬ (s1 5 3) ≤ v1 → (0 ≤ v1 ∧ v1 < 6 ∧ v1 < 2147483648) ∧ ∀ s7 : kM, s7 = va_up s1 23 (va_up (s1 23) v1.toNat (s1 6 6)) → ∀ v7 : Int, v7 = v1 + 1 → K1 v7 s7))
def lp_C_chooseFromTheEnd_2 (nn : Nat → Nat) (Pe1 : Int → kM → Prop) : Nat → Int → kM → Prop
  | 0, _, _ => False
  | k + 1, v1, s1 => lpB_C_chooseFromTheEnd_2 nn Pe1 (lp_C_chooseFromTheEnd_2 nn Pe1 k) v1 s1
def wp_C_chooseFromTheEnd (nn : Nat → Nat) (σ : kM) (Pr : kM → Prop) : Prop := ∃ (Pe1 : Int → kM → Prop) (k1 : Nat), lp_C_chooseFromTheEnd_2 nn Pe1 k1 0 σ ∧ ∀ (v2 : Int) (s2 : kM), Pe1 v2 s2 → (0 ≤ (s2 6 6) ∧ (s2 6 6) < 2001 ∧ (s2 6 6) < 2147483648) ∧ ∀ s3 : kM, s3 = va_up s2 20 (va_up (s2 20) (s2 6 6).toNat 0) → ∀ v3 : Int, v3 = (s3 6 6) - 1 → ∃ (Pe2 : Int → kM → Prop) (k2 : Nat), lp_C_chooseFromTheEnd_43 nn Pe2 k2 v3 s3 ∧ ∀ (v5 : Int) (s5 : kM), Pe2 v5 s5 → Pr s5
def lpB_C_listFromTheBegin_19 (nn : Nat → Nat) (Pe1 K1 : Int → Int → kM → Prop) (v1 : Int) (v2 : Int) (s4 : kM) : Prop := iR v1 ∧ iR (s4 6 6) ∧ (((s4 6 6) ≤ v1 → Pe1 v1 v2 s4) ∧ (¬ (s4 6 6) ≤ v1 → iR v1 ∧ iR v2 ∧ ((v2 ≤ v1 → (0 ≤ v1 ∧ v1 < 2000 ∧ v1 < 2147483648) ∧ ∀ v5 : Int, v5 = s4 21 v1.toNat → iR v5 ∧ ((¬ v5 = (-1) → (0 ≤ (s4 6 7) ∧ (s4 6 7) < 2000 ∧ (s4 6 7) < 2147483648) ∧ ∀ s6 : kM, s6 = va_up s4 22 (va_up (s4 22) (s4 6 7).toNat v1) → ∀ s7 : kM, s7 = va_up s6 6 (va_up (s6 6) 7 ((s6 6 7) + 1)) → ∃ P1 : Int → Prop, wp_L_worth nn s7 v5 P1 ∧ ∀ r1 : Int, P1 r1 → ∀ s8 : kM, s8 = va_up s7 6 (va_up (s7 6) 8 ((s7 6 8) + r1)) → ∃ P2 : Int → Prop, wp_L_width nn s8 v5 P2 ∧ ∀ r2 : Int, P2 r2 → ∀ v6 : Int, v6 = v1 + r2 → ∀ v7 : Int, v7 = v1 + 1 → K1 v7 v6 s8) ∧ (v5 = (-1) → ∀ s9 : kM, s9 = va_up s4 6 (va_up (s4 6) 9 ((s4 6 9) + 1)) → ∀ v8 : Int, v8 = v1 + 1 → K1 v8 v2 s9))) ∧ (¬ v2 ≤ v1 → ∀ v9 : Int, v9 = v1 + 1 → K1 v9 v2 s4))))
def lp_C_listFromTheBegin_19 (nn : Nat → Nat) (Pe1 : Int → Int → kM → Prop) : Nat → Int → Int → kM → Prop
  | 0, _, _, _ => False
  | k + 1, v1, v2, s4 => lpB_C_listFromTheBegin_19 nn Pe1 (lp_C_listFromTheBegin_19 nn Pe1 k) v1 v2 s4
def wp_C_listFromTheBegin (nn : Nat → Nat) (σ : kM) (Pr : kM → Prop) : Prop := ∀ s1 : kM, s1 = va_up σ 6 (va_up (σ 6) 7 0) → ∀ s2 : kM, s2 = va_up s1 6 (va_up (s1 6) 8 0) → ∀ s3 : kM, s3 = va_up s2 6 (va_up (s2 6) 9 0) → ∃ (Pe1 : Int → Int → kM → Prop) (k1 : Nat), lp_C_listFromTheBegin_19 nn Pe1 k1 0 0 s3 ∧ ∀ (v3 : Int) (v4 : Int) (s5 : kM), Pe1 v3 v4 s5 → Pr s5
def wp_C_cut (nn : Nat → Nat) (σ : kM) (p3 : Int) (Pr : kM → Prop) : Prop := iR p3 ∧ ∀ v1 : Int, v1 = (if 1 < p3 then p3 else 1) → ∃ P1 : Int → Prop, wp_R_length nn σ P1 ∧ ∀ r1 : Int, P1 r1 → (iR r1 ∧ iR v1 ∧ 0 ≤ r1 ∧ 0 < v1) ∧ iR (r1 / v1) ∧ ∀ s1 : kM, s1 = va_up σ 6 (va_up (σ 6) 6 (if (r1 / v1) < 2000 then r1 / v1 else 2000)) → ∃ P2 : kM → Prop, wp_C_markFaults nn s1 v1 P2 ∧ ∀ s2 : kM, P2 s2 → ∃ P3 : kM → Prop, wp_C_chooseFromTheEnd nn s2 P3 ∧ ∀ s3 : kM, P3 s3 → ∃ P4 : kM → Prop, wp_C_listFromTheBegin nn s3 P4 ∧ ∀ s4 : kM, P4 s4 → ∀ s5 : kM, s5 = va_up s4 6 (va_up (s4 6) 5 1) → Pr s5
def wp_C_count (nn : Nat → Nat) (σ : kM) (Pr : Int → Prop) : Prop := Pr (σ 6 7)
def wp_P_clip (nn : Nat → Nat) (σ : kM) (p0 : Int) (Pr : Int → kM → Prop) (Px : Nat → kM → Prop) : Prop := ∃ P1 : Int → Prop, wp_P_isWithin nn σ p0 1 1000 P1 ∧ ∀ r1 : Int, P1 r1 → iR r1 ∧ ((¬ r1 = 0 → ∃ P2 : Int → Prop, wp_R_isPeeled nn σ P2 ∧ ∀ r2 : Int, P2 r2 → iR r2 ∧ ((¬ r2 = 0 → ∃ P3 : kM → Prop, wp_C_cut nn σ p0 P3 ∧ ∀ s1 : kM, P3 s1 → Pr (s1 6 7) s1) ∧ (r2 = 0 → Px 2 σ))) ∧ (r1 = 0 → Px 1 σ))
def wp_C_isDone (nn : Nat → Nat) (σ : kM) (Pr : Int → Prop) : Prop := (σ 6 5 = 0 ∨ σ 6 5 = 1) ∧ Pr (σ 6 5)
def wp_C_leafOf (nn : Nat → Nat) (σ : kM) (p0 : Int) (Pr : Int → Prop) : Prop := (0 ≤ p0 ∧ p0 < 2000 ∧ p0 < 2147483648) ∧ (0 ≤ (σ 22 p0.toNat) ∧ (σ 22 p0.toNat) < 2000 ∧ (σ 22 p0.toNat) < 2147483648) ∧ Pr (σ 21 (σ 22 p0.toNat).toNat)
def wp_C_firstStepOf (nn : Nat → Nat) (σ : kM) (p0 : Int) (Pr : Int → Prop) : Prop := (0 ≤ p0 ∧ p0 < 2000 ∧ p0 < 2147483648) ∧ Pr (σ 22 p0.toNat)
def wp_P_at (nn : Nat → Nat) (σ : kM) (p0 : Int) (p1 : Int) (Pr : Int → kM → Prop) (Px : Nat → kM → Prop) : Prop := ∃ P1 : Int → Prop, wp_C_isDone nn σ P1 ∧ ∀ r1 : Int, P1 r1 → iR r1 ∧ ((¬ r1 = 0 → ∃ P2 : Int → Prop, wp_P_isWithin nn σ p0 0 ((σ 6 7) - 1) P2 ∧ ∀ r3 : Int, P2 r3 → iR r3 ∧ ((r3 = 0 → Px 0 σ) ∧ (¬ r3 = 0 → ∃ P3 : Int → Prop, wp_P_isWithin nn σ p1 0 1 P3 ∧ ∀ r4 : Int, P3 r4 → iR r4 ∧ ((¬ r4 = 0 → iR p1 ∧ ((¬ p1 = 0 → ∃ P4 : Int → Prop, wp_C_firstStepOf nn σ p0 P4 ∧ ∀ r5 : Int, P4 r5 → Pr r5 σ) ∧ (p1 = 0 → ∃ P5 : Int → Prop, wp_C_leafOf nn σ p0 P5 ∧ ∀ r6 : Int, P5 r6 → Pr r6 σ))) ∧ (r4 = 0 → Px 0 σ))))) ∧ (r1 = 0 → Px 2 σ))
def wp_C_worth (nn : Nat → Nat) (σ : kM) (Pr : Int → Prop) : Prop := Pr (σ 6 8)
def wp_C_waste (nn : Nat → Nat) (σ : kM) (Pr : Int → Prop) : Prop := Pr (σ 6 9)
def wp_C_steps (nn : Nat → Nat) (σ : kM) (Pr : Int → Prop) : Prop := Pr (σ 6 6)
def wp_P_clipped (nn : Nat → Nat) (σ : kM) (p0 : Int) (Pr : Int → kM → Prop) (Px : Nat → kM → Prop) : Prop := ∃ P1 : Int → Prop, wp_C_isDone nn σ P1 ∧ ∀ r1 : Int, P1 r1 → iR r1 ∧ ((¬ r1 = 0 → ∃ P2 : Int → Prop, wp_P_isWithin nn σ p0 0 2 P2 ∧ ∀ r2 : Int, P2 r2 → iR r2 ∧ ((¬ r2 = 0 → iR p0 ∧ ((¬ p0 = 0 → iR p0 ∧ ((¬ p0 = 1 → Pr (σ 6 6) σ) ∧ (p0 = 1 → Pr (σ 6 9) σ))) ∧ (p0 = 0 → Pr (σ 6 8) σ))) ∧ (r2 = 0 → Px 0 σ))) ∧ (r1 = 0 → Px 2 σ))
def wp_P_shrink (nn : Nat → Nat) (σ : kM) (p0 : Int) (p1 : Int) (p2 : Int) (Pr : Int → kM → Prop) (Px : Nat → kM → Prop) : Prop := ∃ P1 : Int → Prop, wp_L_has nn σ p0 P1 ∧ ∀ r1 : Int, P1 r1 → iR r1 ∧ ((¬ r1 = 0 → ∃ P2 : Int → Prop, wp_P_isWithin nn σ p2 1 1000 P2 ∧ ∀ r2 : Int, P2 r2 → iR r2 ∧ ((r2 = 0 → Px 1 σ) ∧ (¬ r2 = 0 → ∃ P3 : Int → Prop, wp_P_isWithin nn σ p1 0 p2 P3 ∧ ∀ r3 : Int, P3 r3 → iR r3 ∧ ((¬ r3 = 0 → ∃ P4 : Int → Prop, wp_L_width nn σ p0 P4 ∧ ∀ r4 : Int, P4 r4 → (iR (r4 * p1) ∧ iR p2 ∧ 0 ≤ (r4 * p1) ∧ 0 < p2) ∧ Pr ((r4 * p1) / p2) σ) ∧ (r3 = 0 → Px 1 σ))))) ∧ (r1 = 0 → Px 0 σ))
def wp_K_isBelowLast (nn : Nat → Nat) (σ : kM) (p0 : Int) (Pr : Int → Prop) : Prop := iR (σ 7 2) ∧ (((σ 7 2) = 0 → Pr 1) ∧ (¬ (σ 7 2) = 0 → (0 ≤ ((σ 7 2) - 1) ∧ ((σ 7 2) - 1) < 8 ∧ ((σ 7 2) - 1) < 2147483648) ∧ iR p0 ∧ iR (σ 24 ((σ 7 2) - 1).toNat) ∧ (((σ 24 ((σ 7 2) - 1).toNat) ≤ p0 → Pr 0) ∧ (¬ (σ 24 ((σ 7 2) - 1).toNat) ≤ p0 → Pr 1))))
def wp_K_add (nn : Nat → Nat) (σ : kM) (p0 : Int) (p1 : Int) (Pr : Int → kM → Prop) : Prop := iR (σ 7 2) ∧ (((σ 7 2) < 8 → (0 ≤ (σ 7 2) ∧ (σ 7 2) < 8 ∧ (σ 7 2) < 2147483648) ∧ ∀ s1 : kM, s1 = va_up σ 24 (va_up (σ 24) (σ 7 2).toNat p0) → (0 ≤ (s1 7 2) ∧ (s1 7 2) < 8 ∧ (s1 7 2) < 2147483648) ∧ ∀ s2 : kM, s2 = va_up s1 25 (va_up (s1 25) (s1 7 2).toNat p1) → ∀ s3 : kM, s3 = va_up s2 7 (va_up (s2 7) 2 ((s2 7 2) + 1)) → Pr 1 s3) ∧ (¬ (σ 7 2) < 8 → Pr 0 σ))
def wp_P_row (nn : Nat → Nat) (σ : kM) (p0 : Int) (p1 : Int) (Pr : Int → kM → Prop) (Px : Nat → kM → Prop) : Prop := ∃ P1 : Int → Prop, wp_P_isWithin nn σ p0 0 1000 P1 ∧ ∀ r1 : Int, P1 r1 → iR r1 ∧ ((r1 = 0 → Px 1 σ) ∧ (¬ r1 = 0 → ∃ P2 : Int → Prop, wp_K_isBelowLast nn σ p0 P2 ∧ ∀ r2 : Int, P2 r2 → iR r2 ∧ ((r2 = 0 → Px 1 σ) ∧ (¬ r2 = 0 → ∃ P3 : Int → Prop, wp_P_isWithin nn σ p1 (-100) 100 P3 ∧ ∀ r3 : Int, P3 r3 → iR r3 ∧ ((¬ r3 = 0 → ∃ P4 : Int → kM → Prop, wp_K_add nn σ p0 p1 P4 ∧ ∀ (r4 : Int) (s1 : kM), P4 r4 s1 → (r4 = 0 ∨ r4 = 1) ∧ Pr r4 s1) ∧ (r3 = 0 → Px 1 σ))))))
def lpB_K_answerAt_7 (nn : Nat → Nat) (p0 : Int) (σ : kM) (Pr : Int → Prop) (Pe1 K1 : Int → Prop) (v2 : Int) : Prop := iR v2 ∧ ((v2 < 0 → Pe1 v2) ∧ (¬ v2 < 0 → (0 ≤ v2 ∧ v2 < 8 ∧ v2 < 2147483648) ∧ iR (σ 24 v2.toNat) ∧ iR p0 ∧ (((σ 24 v2.toNat) < p0 → ∀ v4 : Int, v4 = v2 + (-1) → K1 v4) ∧ (¬ (σ 24 v2.toNat) < p0 → (0 ≤ v2 ∧ v2 < 8 ∧ v2 < 2147483648) ∧ Pr ((σ 25 v2.toNat) + 1000)))))
def lp_K_answerAt_7 (nn : Nat → Nat) (p0 : Int) (σ : kM) (Pr : Int → Prop) (Pe1 : Int → Prop) : Nat → Int → Prop
  | 0, _ => False
  | k + 1, v2 => lpB_K_answerAt_7 nn p0 σ Pr Pe1 (lp_K_answerAt_7 nn p0 σ Pr Pe1 k) v2
def wp_K_answerAt (nn : Nat → Nat) (σ : kM) (p0 : Int) (Pr : Int → Prop) : Prop := ∀ v1 : Int, v1 = (σ 7 2) - 1 → ∃ (Pe1 : Int → Prop) (k1 : Nat), lp_K_answerAt_7 nn p0 σ Pr Pe1 k1 v1 ∧ ∀ (v3 : Int), Pe1 v3 → Pr (-1)
def wp_P_knife (nn : Nat → Nat) (σ : kM) (p0 : Int) (Pr : Int → kM → Prop) (Px : Nat → kM → Prop) : Prop := ∃ P1 : Int → Prop, wp_P_isWithin nn σ p0 0 1000 P1 ∧ ∀ r1 : Int, P1 r1 → iR r1 ∧ ((¬ r1 = 0 → ∃ P2 : Int → Prop, wp_K_answerAt nn σ p0 P2 ∧ ∀ r2 : Int, P2 r2 → Pr r2 σ) ∧ (r1 = 0 → Px 1 σ))
def wp_P_nearestOf (nn : Nat → Nat) (σ : kM) (p0 : Int) (p1 : Int) (p2 : Int) (Pr : Int → Prop) : Prop := iR p2 ∧ iR p0 ∧ iR p1 ∧ iR (if p0 < p2 then p0 else p2) ∧ Pr (if p1 < (if p0 < p2 then p0 else p2) then (if p0 < p2 then p0 else p2) else p1)
end
section
abbrev rm_P_isWithin : Room := { frames := 0, cells := 0, slots := 0, locals := 0 }
set_option maxHeartbeats 4000000 in
set_option maxRecDepth 100000 in
theorem c_P_isWithin (l : Launch) (dC : Nat → ClassId) (dI : Nat → Nat → Nat) (tys : List (ClassId × FieldType)) (w : kM → va_W) (nn : Nat → Nat) (σ : kM) (p0 : Int) (p1 : Int) (p2 : Int) {P : Int → Prop} (h : wp_P_isWithin nn σ p0 p1 p2 P) : kMp l y_P_isWithin ws_P_isWithin rm_P_isWithin (dC, dI) vwC tys w nsG σ [.int (iI p0), .int (iI p1), .int (iI p2)] P := by
  refine k_enterP (cc := b_P_isWithin) (maxL := 3) (ret := (some .boolean)) (by decide) rfl (Nat.le_of_ble_eq_true rfl) ?_
  intro p e s m below meth c ls S hr hlocks hP hK hN hl
  generalize ([.int (iI p0), .int (iI p1), .int (iI p2)] : List Value).toArray = args at S ⊢
  obtain ⟨hx, hb, hml, hown, hts⟩ := id S
  have hl : lv_has ls 3 [(0, .int (iI p0)), (1, .int (iI p1)), (2, .int (iI p2))] := hl
  unfold wp_P_isWithin at h
  refine lv_iload_n hx hb dP_isWithin_0 rfl (lv_at hl 0 rfl) ?_
  refine lv_iload_n hx hb dP_isWithin_1 rfl (lv_at hl 1 rfl) ?_
  obtain ⟨q1, h⟩ := h
  obtain ⟨q2, h⟩ := h
  obtain ⟨ht, hf⟩ := h
  refine ki_icmp_lt (tgt := 14) hx hb dP_isWithin_2 (by decide) q1 q2 (fun c1 => ?_) (fun c1 => ?_)
  · have h := ht c1
    refine lv_iconst (v := iI 0) hx hb dP_isWithin_14 rfl ?_
    exact k_zretP hx hb hr hlocks dP_isWithin_15 (by decide) h
  · have h := hf c1
    refine lv_iload_n hx hb dP_isWithin_5 rfl (lv_at hl 0 rfl) ?_
    refine lv_iload_n hx hb dP_isWithin_6 rfl (lv_at hl 2 rfl) ?_
    obtain ⟨q3, h⟩ := h
    obtain ⟨q4, h⟩ := h
    obtain ⟨ht, hf⟩ := h
    refine ki_icmp_gt (tgt := 14) hx hb dP_isWithin_7 (by decide) q3 q4 (fun c2 => ?_) (fun c2 => ?_)
    · have h := ht c2
      refine lv_iconst (v := iI 0) hx hb dP_isWithin_14 rfl ?_
      exact k_zretP hx hb hr hlocks dP_isWithin_15 (by decide) h
    · have h := hf c2
      refine lv_iconst (v := iI 1) hx hb dP_isWithin_10 rfl ?_
      refine lv_goto (tgt := 15) hx hb dP_isWithin_11 (by decide) ?_
      exact k_zretP hx hb hr hlocks dP_isWithin_15 (by decide) h
abbrev rm_S_hasCell : Room := { frames := 1, cells := 0, slots := 0, locals := 22 }
set_option maxHeartbeats 4000000 in
set_option maxRecDepth 100000 in
theorem c_S_hasCell (l : Launch) (dC : Nat → ClassId) (dI : Nat → Nat → Nat) (ad : Nat → Nat) (kc : Nat → ClassId) (nn : Nat → Nat) (σ : kM) (p0 : Int) (p1 : Int) (p2 : Int) {P : Int → Prop} (h : wp_S_hasCell nn σ p0 p1 p2 P) : kMp l y_S_hasCell ws_S_hasCell rm_S_hasCell (dC, dI) vwC (tyC kc) (wC ad kc nn) nsG σ [.ref (ad 1), .int (iI p0), .int (iI p1), .int (iI p2)] P := by
  refine k_enterP (cc := b_S_hasCell) (maxL := 4) (ret := (some .boolean)) (by decide) rfl (Nat.le_of_ble_eq_true rfl) ?_
  intro p e s m below meth c ls S hr hlocks hP hK hN hl
  generalize ([.ref (ad 1), .int (iI p0), .int (iI p1), .int (iI p2)] : List Value).toArray = args at S ⊢
  obtain ⟨hx, hb, hml, hown, hts⟩ := id S
  have hl : lv_has ls 4 [(0, .ref (ad 1)), (1, .int (iI p0)), (2, .int (iI p1)), (3, .int (iI p2))] := hl
  unfold wp_S_hasCell at h
  refine lv_iload_n hx hb dS_hasCell_0 rfl (lv_at hl 1 rfl) ?_
  refine lv_iconst (v := iI 0) hx hb dS_hasCell_1 rfl ?_
  refine lv_aload_n hx hb dS_hasCell_2 rfl (lv_at hl 0 rfl) ?_
  refine k_get (ci := 1) (C := R_S) (T := T_S) (N := 8) hx hb hts (fun w q => gG_in (inG_S w q)) hown hK hP 1 rfl rfl 0 (by decide) (hts _ (gG_in mw_41)) rfl dS_hasCell_3 ?_
  refine lv_iconst (v := iI 1) hx hb dS_hasCell_6 rfl ?_
  refine ki_sub hx hb dS_hasCell_7 ?_
  obtain ⟨P1, g1, h⟩ := h
  refine kc_np (As := [.int (iI p0), .int (iI 0), .int (iI ((σ 1 0) - 1))]) (rest := []) S (c_P_isWithin l dC dI (tyC kc) (wC ad kc nn) nn σ p0 0 ((σ 1 0) - 1) g1) ⟨va_cnB 3 hts (gG_good k_P_isWithin) rfl rfl rfl (hN _ (List.mem_of_getElem? (i := 5) rfl)) (hts _ (gG_in mw_1)) (by decide +kernel) ⟨Nat.le_of_ble_eq_true rfl, Nat.le_of_ble_eq_true rfl⟩, hts _ (gG_in mw_270), trivial⟩ hK hN hP rfl hl.1 rfl (Nat.le_of_ble_eq_true rfl) dS_hasCell_8 ⟨Nat.zero_le _, Nat.zero_le _⟩ (fun r1 hp => ?_)
  have h := h r1 hp
  obtain ⟨q1, h⟩ := h
  obtain ⟨ht, hf⟩ := h
  refine ki_if_eq (tgt := 46) hx hb dS_hasCell_11 (by decide) q1 (fun c1 => ?_) (fun c1 => ?_)
  · have h := ht c1
    refine lv_iconst (v := iI 0) hx hb dS_hasCell_46 rfl ?_
    exact k_zretP hx hb hr hlocks dS_hasCell_47 (by decide) h
  · have h := hf c1
    refine lv_iload_n hx hb dS_hasCell_14 rfl (lv_at hl 2 rfl) ?_
    refine lv_iconst (v := iI 0) hx hb dS_hasCell_15 rfl ?_
    refine lv_aload_n hx hb dS_hasCell_16 rfl (lv_at hl 0 rfl) ?_
    refine k_get (ci := 1) (C := R_S) (T := T_S) (N := 8) hx hb hts (fun w q => gG_in (inG_S w q)) hown hK hP 1 rfl rfl 1 (by decide) (hts _ (gG_in mw_42)) rfl dS_hasCell_17 ?_
    refine lv_iconst (v := iI 1) hx hb dS_hasCell_20 rfl ?_
    refine ki_sub hx hb dS_hasCell_21 ?_
    obtain ⟨P2, g2, h⟩ := h
    refine kc_np (As := [.int (iI p1), .int (iI 0), .int (iI ((σ 1 1) - 1))]) (rest := []) S (c_P_isWithin l dC dI (tyC kc) (wC ad kc nn) nn σ p1 0 ((σ 1 1) - 1) g2) ⟨va_cnB 3 hts (gG_good k_P_isWithin) rfl rfl rfl (hN _ (List.mem_of_getElem? (i := 5) rfl)) (hts _ (gG_in mw_1)) (by decide +kernel) ⟨Nat.le_of_ble_eq_true rfl, Nat.le_of_ble_eq_true rfl⟩, hts _ (gG_in mw_270), trivial⟩ hK hN hP rfl hl.1 rfl (Nat.le_of_ble_eq_true rfl) dS_hasCell_22 ⟨Nat.zero_le _, Nat.zero_le _⟩ (fun r2 hp => ?_)
    have h := h r2 hp
    obtain ⟨q2, h⟩ := h
    obtain ⟨ht, hf⟩ := h
    refine ki_if_eq (tgt := 46) hx hb dS_hasCell_25 (by decide) q2 (fun c2 => ?_) (fun c2 => ?_)
    · have h := ht c2
      refine lv_iconst (v := iI 0) hx hb dS_hasCell_46 rfl ?_
      exact k_zretP hx hb hr hlocks dS_hasCell_47 (by decide) h
    · have h := hf c2
      refine lv_iload_n hx hb dS_hasCell_28 rfl (lv_at hl 3 rfl) ?_
      refine lv_iconst (v := iI 0) hx hb dS_hasCell_29 rfl ?_
      refine lv_aload_n hx hb dS_hasCell_30 rfl (lv_at hl 0 rfl) ?_
      refine k_get (ci := 1) (C := R_S) (T := T_S) (N := 8) hx hb hts (fun w q => gG_in (inG_S w q)) hown hK hP 1 rfl rfl 1 (by decide) (hts _ (gG_in mw_42)) rfl dS_hasCell_31 ?_
      refine lv_iconst (v := iI 1) hx hb dS_hasCell_34 rfl ?_
      refine ki_sub hx hb dS_hasCell_35 ?_
      obtain ⟨P3, g3, h⟩ := h
      refine kc_np (As := [.int (iI p2), .int (iI 0), .int (iI ((σ 1 1) - 1))]) (rest := []) S (c_P_isWithin l dC dI (tyC kc) (wC ad kc nn) nn σ p2 0 ((σ 1 1) - 1) g3) ⟨va_cnB 3 hts (gG_good k_P_isWithin) rfl rfl rfl (hN _ (List.mem_of_getElem? (i := 5) rfl)) (hts _ (gG_in mw_1)) (by decide +kernel) ⟨Nat.le_of_ble_eq_true rfl, Nat.le_of_ble_eq_true rfl⟩, hts _ (gG_in mw_270), trivial⟩ hK hN hP rfl hl.1 rfl (Nat.le_of_ble_eq_true rfl) dS_hasCell_36 ⟨Nat.zero_le _, Nat.zero_le _⟩ (fun r3 hp => ?_)
      have h := h r3 hp
      obtain ⟨q3, h⟩ := h
      obtain ⟨ht, hf⟩ := h
      refine ki_if_eq (tgt := 46) hx hb dS_hasCell_39 (by decide) q3 (fun c3 => ?_) (fun c3 => ?_)
      · have h := ht c3
        refine lv_iconst (v := iI 0) hx hb dS_hasCell_46 rfl ?_
        exact k_zretP hx hb hr hlocks dS_hasCell_47 (by decide) h
      · have h := hf c3
        refine lv_iconst (v := iI 1) hx hb dS_hasCell_42 rfl ?_
        refine lv_goto (tgt := 47) hx hb dS_hasCell_43 (by decide) ?_
        exact k_zretP hx hb hr hlocks dS_hasCell_47 (by decide) h
abbrev rm_S_indexOf : Room := { frames := 0, cells := 0, slots := 0, locals := 0 }
set_option maxHeartbeats 4000000 in
set_option maxRecDepth 100000 in
theorem c_S_indexOf (l : Launch) (dC : Nat → ClassId) (dI : Nat → Nat → Nat) (ad : Nat → Nat) (kc : Nat → ClassId) (nn : Nat → Nat) (σ : kM) (p0 : Int) (p1 : Int) (p2 : Int) {P : Int → Prop} (h : wp_S_indexOf nn σ p0 p1 p2 P) : kMp l y_S_indexOf ws_S_indexOf rm_S_indexOf (dC, dI) vwC (tyC kc) (wC ad kc nn) nsG σ [.ref (ad 1), .int (iI p0), .int (iI p1), .int (iI p2)] P := by
  refine k_enterP (cc := b_S_indexOf) (maxL := 4) (ret := (some .int)) (by decide) rfl (Nat.le_of_ble_eq_true rfl) ?_
  intro p e s m below meth c ls S hr hlocks hP hK hN hl
  generalize ([.ref (ad 1), .int (iI p0), .int (iI p1), .int (iI p2)] : List Value).toArray = args at S ⊢
  obtain ⟨hx, hb, hml, hown, hts⟩ := id S
  have hl : lv_has ls 4 [(0, .ref (ad 1)), (1, .int (iI p0)), (2, .int (iI p1)), (3, .int (iI p2))] := hl
  unfold wp_S_indexOf at h
  refine lv_iload_n hx hb dS_indexOf_0 rfl (lv_at hl 1 rfl) ?_
  refine lv_aload_n hx hb dS_indexOf_1 rfl (lv_at hl 0 rfl) ?_
  refine k_get (ci := 1) (C := R_S) (T := T_S) (N := 8) hx hb hts (fun w q => gG_in (inG_S w q)) hown hK hP 1 rfl rfl 1 (by decide) (hts _ (gG_in mw_42)) rfl dS_indexOf_2 ?_
  refine ki_mul hx hb dS_indexOf_5 ?_
  refine lv_iload_n hx hb dS_indexOf_6 rfl (lv_at hl 3 rfl) ?_
  refine ki_add hx hb dS_indexOf_7 ?_
  refine lv_aload_n hx hb dS_indexOf_8 rfl (lv_at hl 0 rfl) ?_
  refine k_get (ci := 1) (C := R_S) (T := T_S) (N := 8) hx hb hts (fun w q => gG_in (inG_S w q)) hown hK hP 1 rfl rfl 1 (by decide) (hts _ (gG_in mw_42)) rfl dS_indexOf_9 ?_
  refine ki_mul hx hb dS_indexOf_12 ?_
  refine lv_iload_n hx hb dS_indexOf_13 rfl (lv_at hl 2 rfl) ?_
  refine ki_add hx hb dS_indexOf_14 ?_
  exact k_iretP hx hb hr hlocks dS_indexOf_15 h
abbrev rm_S_tell : Room := { frames := 1, cells := 0, slots := 0, locals := 23 }
set_option maxHeartbeats 4000000 in
set_option maxRecDepth 100000 in
theorem c_S_tell (l : Launch) (dC : Nat → ClassId) (dI : Nat → Nat → Nat) (ad : Nat → Nat) (kc : Nat → ClassId) (nn : Nat → Nat) (σ : kM) (p0 : Int) (p1 : Int) (p2 : Int) (p3 : Int) {P : Int → kM → Prop} (h : wp_S_tell nn σ p0 p1 p2 p3 P) : kMi l y_S_tell ws_S_tell rm_S_tell (dC, dI) vwC (tyC kc) (wC ad kc nn) nsG σ [.ref (ad 1), .int (iI p0), .int (iI p1), .int (iI p2), .int (iI p3)] P := by
  intro sz
  refine k_enter (cc := b_S_tell) (maxL := 7) (ret := (some .boolean)) (by decide) rfl (Nat.le_of_ble_eq_true rfl) ?_
  intro p e s m below meth c ls S hr hlocks hsz hA hW hK hN hl
  generalize va_A ((wC ad kc nn) σ) sz = A at hA hW ⊢
  generalize ([.ref (ad 1), .int (iI p0), .int (iI p1), .int (iI p2), .int (iI p3)] : List Value).toArray = args at S ⊢
  obtain ⟨hx, hb, hml, hown, hts⟩ := id S
  have hl : lv_has ls 7 [(0, .ref (ad 1)), (1, .int (iI p0)), (2, .int (iI p1)), (3, .int (iI p2)), (4, .int (iI p3))] := hl
  unfold wp_S_tell at h
  refine lv_aload_n hx hb dS_tell_0 rfl (lv_at hl 0 rfl) ?_
  refine lv_iload_n hx hb dS_tell_1 rfl (lv_at hl 1 rfl) ?_
  refine lv_iload_n hx hb dS_tell_2 rfl (lv_at hl 2 rfl) ?_
  refine lv_iload_n hx hb dS_tell_3 rfl (lv_at hl 3 rfl) ?_
  refine kc_vp (As := [.int (iI p0), .int (iI p1), .int (iI p2)]) (rest := []) (ci := 1) (q0 := 1) S (c_S_indexOf l dC dI ad kc nn σ p0 p1 p2 (P := fun r => ((((p0 * (σ 1 1)) + p2) * (σ 1 1)) + p1) = r) rfl) (cwV 3 hts (gV mw_272 mw_274 ps_6 mw_2 k_S_indexOf) rfl rfl rfl (by decide +kernel) ⟨Nat.le_of_ble_eq_true rfl, Nat.le_of_ble_eq_true rfl⟩) hK hN hW.1 rfl rfl rfl hl.1 rfl (Nat.le_of_ble_eq_true rfl) dS_tell_4 ⟨Nat.zero_le _, Nat.zero_le _⟩ (fun r1 hp => ?_)
  subst hp
  refine ki_nm (fun v1 ev1 => ?_)
  have h := h v1 ev1
  refine lv_istore (lv' := [(5, .int (iI v1)), (0, .ref (ad 1)), (1, .int (iI p0)), (2, .int (iI p1)), (3, .int (iI p2)), (4, .int (iI p3))]) hx hb dS_tell_7 hl (by decide) rfl (fun ls hl => ?_)
  refine lv_aload_n hx hb dS_tell_9 rfl (lv_at hl 1 rfl) ?_
  refine k_get (ci := 1) (C := R_S) (T := T_S) (N := 8) hx hb hts (fun w q => gG_in (inG_S w q)) hown hK hW.1 1 rfl rfl 4 (by decide) (hts _ (gG_in mw_45)) rfl dS_tell_10 ?_
  refine lv_iload hx hb dS_tell_13 (lv_at hl 0 rfl) ?_
  obtain ⟨q1, h⟩ := h
  refine k_zald hx hb hK hW.1 8 0 (σ 8) rfl rfl q1 dS_tell_15 ?_
  refine lv_iload hx hb dS_tell_16 (lv_at hl 5 rfl) ?_
  obtain ⟨q2, h⟩ := h
  obtain ⟨q3, h⟩ := h
  have jW1 : ∀ (v2 : Int) (H : Heap) (locs : List Loc) (ls : Array Slot), kW (dC, dI) vwC A s.heap (wC ad kc nn σ) H locs → lv_has ls 7 [(5, .int (iI v1)), (0, .ref (ad 1)), (1, .int (iI p0)), (4, .int (iI p3))] → jn_S_tell_26 nn p0 p3 σ P v1 v2 → W p l e (headSpec ws_S_tell rm_S_tell).room s m args below meth c H locs 0 0 (MQ below (kQi (dC, dI) vwC (wC ad kc nn) P A) args s 0 0 A) (F0 m 26 ls [.int (iI v2)]) := by
    intro v2 H locs ls hW hl h
    unfold jn_S_tell_26 at h
    refine lv_istore (lv' := [(6, .int (iI v2)), (5, .int (iI v1)), (0, .ref (ad 1)), (1, .int (iI p0)), (4, .int (iI p3))]) hx hb dS_tell_26 hl (by decide) rfl (fun ls hl => ?_)
    refine lv_iload hx hb dS_tell_28 (lv_at hl 0 rfl) ?_
    obtain ⟨q4, h⟩ := h
    obtain ⟨ht, hf⟩ := h
    refine ki_if_eq (tgt := 49) hx hb dS_tell_30 (by decide) q4 (fun c1 => ?_) (fun c1 => ?_)
    · have h := ht c1
      refine lv_iload hx hb dS_tell_49 (lv_at hl 0 rfl) ?_
      exact k_zret hx hb hr hlocks hW dS_tell_51 h.1 h.2
    · have h := hf c1
      refine lv_aload_n hx hb dS_tell_33 rfl (lv_at hl 2 rfl) ?_
      refine k_get (ci := 1) (C := R_S) (T := T_S) (N := 8) hx hb hts (fun w q => gG_in (inG_S w q)) hown hK hW.1 1 rfl rfl 4 (by decide) (hts _ (gG_in mw_45)) rfl dS_tell_34 ?_
      refine lv_iload hx hb dS_tell_37 (lv_at hl 1 rfl) ?_
      refine lv_iload hx hb dS_tell_39 (lv_at hl 4 rfl) ?_
      obtain ⟨q5, h⟩ := h
      obtain ⟨q6, h⟩ := h
      obtain ⟨s1, es1⟩ : ∃ z : kM, z = va_up σ 8 (va_up (σ 8) v1.toNat p3) := ⟨_, rfl⟩
      refine k_zast (ws' := wC ad kc nn s1) hx hb hK hW 8 0 (σ 8) rfl rfl q5 q6 (by rw [es1]; exact wC_a8 ..) dS_tell_41 (fun H locs hW => ?_)
      have h := h s1 es1
      refine lv_aload_n hx hb dS_tell_42 rfl (lv_at hl 2 rfl) ?_
      refine k_get (ci := 1) (C := R_S) (T := T_S) (N := 8) hx hb hts (fun w q => gG_in (inG_S w q)) hown hK hW.1 1 rfl rfl 6 (by decide) (hts _ (gG_in mw_47)) rfl dS_tell_43 ?_
      refine lv_iload_n hx hb dS_tell_46 rfl (lv_at hl 3 rfl) ?_
      refine lv_iconst (v := iI 1) hx hb dS_tell_47 rfl ?_
      obtain ⟨q7, h⟩ := h
      obtain ⟨s2, es2⟩ : ∃ z : kM, z = va_up s1 10 (va_up (s1 10) p0.toNat 1) := ⟨_, rfl⟩
      refine k_zast (ws' := wC ad kc nn s2) hx hb hK hW 10 2 (s1 10) rfl rfl q7 (by decide) (by rw [es2]; exact wC_a10 ..) dS_tell_48 (fun H locs hW => ?_)
      have h := h s2 es2
      refine lv_iload hx hb dS_tell_49 (lv_at hl 0 rfl) ?_
      exact k_zret hx hb hr hlocks hW dS_tell_51 h.1 h.2
  obtain ⟨ht, hf⟩ := h
  refine ki_icmp_eq (tgt := 25) hx hb dS_tell_18 (by decide) q2 q3 (fun c2 => ?_) (fun c2 => ?_)
  · have h := ht c2
    refine lv_iconst (v := iI 0) hx hb dS_tell_25 rfl ?_
    exact jW1 0 _ _ ls hW (lv_sub hl [0, 1, 2, 5] rfl) h
  · have h := hf c2
    refine lv_iconst (v := iI 1) hx hb dS_tell_21 rfl ?_
    refine lv_goto (tgt := 26) hx hb dS_tell_22 (by decide) ?_
    exact jW1 1 _ _ ls hW (lv_sub hl [0, 1, 2, 5] rfl) h
abbrev rm_A_forget : Room := { frames := 0, cells := 0, slots := 0, locals := 0 }
set_option maxHeartbeats 4000000 in
set_option maxRecDepth 100000 in
theorem c_A_forget (l : Launch) (dC : Nat → ClassId) (dI : Nat → Nat → Nat) (ad : Nat → Nat) (kc : Nat → ClassId) (nn : Nat → Nat) (σ : kM) {P : kM → Prop} (h : wp_A_forget nn σ P) : kMv l y_A_forget ws_A_forget rm_A_forget (dC, dI) vwC (tyC kc) (wC ad kc nn) nsG σ [.ref (ad 2)] P := by
  intro sz
  refine k_enter (cc := b_A_forget) (maxL := 1) (ret := none) (by decide) rfl (Nat.le_of_ble_eq_true rfl) ?_
  intro p e s m below meth c ls S hr hlocks hsz hA hW hK hN hl
  generalize va_A ((wC ad kc nn) σ) sz = A at hA hW ⊢
  generalize ([.ref (ad 2)] : List Value).toArray = args at S ⊢
  obtain ⟨hx, hb, hml, hown, hts⟩ := id S
  have hl : lv_has ls 1 [(0, .ref (ad 2))] := hl
  unfold wp_A_forget at h
  refine lv_aload_n hx hb dA_forget_0 rfl (lv_at hl 0 rfl) ?_
  refine lv_iconst (v := iI 1) hx hb dA_forget_1 rfl ?_
  obtain ⟨s1, es1⟩ : ∃ z : kM, z = va_up σ 2 (va_up (σ 2) 3 1) := ⟨_, rfl⟩
  refine k_put (ty := .boolean) (ws' := wC ad kc nn s1) (ci := 2) (C := R_A) (T := T_A) (N := 4) hx hb hts (fun w q => gG_in (inG_A w q)) ty_A tk_A nm_A hown hK hW 2 rfl rfl 3 (by decide) (hts _ (gG_in mw_77)) rfl (by decide +kernel) (narZ (by decide)) (fitZ (by decide)) (Nat.le_of_ble_eq_true rfl) (by rw [es1]; exact wC_p2_3 ..) dA_forget_2 (fun H locs hW => ?_)
  have h := h s1 es1
  exact k_vret hx hb hr hlocks hW dA_forget_5 h
abbrev rm_R_forget : Room := { frames := 0, cells := 0, slots := 0, locals := 0 }
set_option maxHeartbeats 4000000 in
set_option maxRecDepth 100000 in
theorem c_R_forget (l : Launch) (dC : Nat → ClassId) (dI : Nat → Nat → Nat) (ad : Nat → Nat) (kc : Nat → ClassId) (nn : Nat → Nat) (σ : kM) {P : kM → Prop} (h : wp_R_forget nn σ P) : kMv l y_R_forget ws_R_forget rm_R_forget (dC, dI) vwC (tyC kc) (wC ad kc nn) nsG σ [.ref (ad 3)] P := by
  intro sz
  refine k_enter (cc := b_R_forget) (maxL := 1) (ret := none) (by decide) rfl (Nat.le_of_ble_eq_true rfl) ?_
  intro p e s m below meth c ls S hr hlocks hsz hA hW hK hN hl
  generalize va_A ((wC ad kc nn) σ) sz = A at hA hW ⊢
  generalize ([.ref (ad 3)] : List Value).toArray = args at S ⊢
  obtain ⟨hx, hb, hml, hown, hts⟩ := id S
  have hl : lv_has ls 1 [(0, .ref (ad 3))] := hl
  unfold wp_R_forget at h
  refine lv_aload_n hx hb dR_forget_0 rfl (lv_at hl 0 rfl) ?_
  refine lv_iconst (v := iI 0) hx hb dR_forget_1 rfl ?_
  obtain ⟨s1, es1⟩ : ∃ z : kM, z = va_up σ 3 (va_up (σ 3) 0 0) := ⟨_, rfl⟩
  refine k_put (ty := .boolean) (ws' := wC ad kc nn s1) (ci := 3) (C := R_R) (T := T_R) (N := 4) hx hb hts (fun w q => gG_in (inG_R w q)) ty_R tk_R nm_R hown hK hW 3 rfl rfl 0 (by decide) (hts _ (gG_in mw_93)) rfl (by decide +kernel) (narZ (by decide)) (fitZ (by decide)) (Nat.le_of_ble_eq_true rfl) (by rw [es1]; exact wC_p3_0 ..) dR_forget_2 (fun H locs hW => ?_)
  have h := h s1 es1
  exact k_vret hx hb hr hlocks hW dR_forget_5 h
abbrev rm_C_forget : Room := { frames := 0, cells := 0, slots := 0, locals := 0 }
set_option maxHeartbeats 4000000 in
set_option maxRecDepth 100000 in
theorem c_C_forget (l : Launch) (dC : Nat → ClassId) (dI : Nat → Nat → Nat) (ad : Nat → Nat) (kc : Nat → ClassId) (nn : Nat → Nat) (σ : kM) {P : kM → Prop} (h : wp_C_forget nn σ P) : kMv l y_C_forget ws_C_forget rm_C_forget (dC, dI) vwC (tyC kc) (wC ad kc nn) nsG σ [.ref (ad 6)] P := by
  intro sz
  refine k_enter (cc := b_C_forget) (maxL := 1) (ret := none) (by decide) rfl (Nat.le_of_ble_eq_true rfl) ?_
  intro p e s m below meth c ls S hr hlocks hsz hA hW hK hN hl
  generalize va_A ((wC ad kc nn) σ) sz = A at hA hW ⊢
  generalize ([.ref (ad 6)] : List Value).toArray = args at S ⊢
  obtain ⟨hx, hb, hml, hown, hts⟩ := id S
  have hl : lv_has ls 1 [(0, .ref (ad 6))] := hl
  unfold wp_C_forget at h
  refine lv_aload_n hx hb dC_forget_0 rfl (lv_at hl 0 rfl) ?_
  refine lv_iconst (v := iI 0) hx hb dC_forget_1 rfl ?_
  obtain ⟨s1, es1⟩ : ∃ z : kM, z = va_up σ 6 (va_up (σ 6) 5 0) := ⟨_, rfl⟩
  refine k_put (ty := .boolean) (ws' := wC ad kc nn s1) (ci := 6) (C := R_C) (T := T_C) (N := 10) hx hb hts (fun w q => gG_in (inG_C w q)) ty_C tk_C nm_C hown hK hW 6 rfl rfl 5 (by decide) (hts _ (gG_in mw_155)) rfl (by decide +kernel) (narZ (by decide)) (fitZ (by decide)) (Nat.le_of_ble_eq_true rfl) (by rw [es1]; exact wC_p6_5 ..) dC_forget_2 (fun H locs hW => ?_)
  have h := h s1 es1
  exact k_vret hx hb hr hlocks hW dC_forget_5 h
abbrev rm_P_cell : Room := { frames := 6, cells := 0, slots := 0, locals := 82 }
set_option maxHeartbeats 4000000 in
set_option maxRecDepth 100000 in
theorem c_P_cell (l : Launch) (dC : Nat → ClassId) (dI : Nat → Nat → Nat) (ad : Nat → Nat) (kc : Nat → ClassId) (nn : Nat → Nat) (σ : kM) (p0 : Int) (p1 : Int) (p2 : Int) (p3 : Int) {P : Int → kM → Prop} (h : wp_P_cell nn σ p0 p1 p2 p3 P (fun _ _ => False)) : kMi l y_P_cell ws_P_cell rm_P_cell (dC, dI) vwC (tyC kc) (wC ad kc nn) nsG σ [.ref (ad 0), .int (iI p0), .int (iI p1), .int (iI p2), .int (iI p3)] P := by
  intro sz
  refine k_enter (cc := b_P_cell) (maxL := 6) (ret := (some .boolean)) (by decide) rfl (Nat.le_of_ble_eq_true rfl) ?_
  intro p e s m below meth c ls S hr hlocks hsz hA hW hK hN hl
  generalize va_A ((wC ad kc nn) σ) sz = A at hA hW ⊢
  generalize ([.ref (ad 0), .int (iI p0), .int (iI p1), .int (iI p2), .int (iI p3)] : List Value).toArray = args at S ⊢
  obtain ⟨hx, hb, hml, hown, hts⟩ := id S
  have hl : lv_has ls 6 [(0, .ref (ad 0)), (1, .int (iI p0)), (2, .int (iI p1)), (3, .int (iI p2)), (4, .int (iI p3))] := hl
  unfold wp_P_cell at h
  refine lv_aload_n hx hb dP_cell_0 rfl (lv_at hl 0 rfl) ?_
  refine k_get (ci := 0) (C := R_P) (T := T_P) (N := 7) hx hb hts (fun w q => gG_in (inG_P w q)) hown hK hW.1 0 rfl rfl 0 (by decide) (hts _ (gG_in mw_198)) rfl dP_cell_1 ?_
  refine lv_iload_n hx hb dP_cell_4 rfl (lv_at hl 1 rfl) ?_
  refine lv_iload_n hx hb dP_cell_5 rfl (lv_at hl 2 rfl) ?_
  refine lv_iload_n hx hb dP_cell_6 rfl (lv_at hl 3 rfl) ?_
  obtain ⟨P1, g1, h⟩ := h
  refine kc_vp (As := [.int (iI p0), .int (iI p1), .int (iI p2)]) (rest := []) (ci := 1) (q0 := 1) S (c_S_hasCell l dC dI ad kc nn σ p0 p1 p2 g1) (cwV 3 hts (gV mw_325 mw_266 mw_267 mw_2 k_S_hasCell) rfl rfl rfl (by decide +kernel) ⟨Nat.le_of_ble_eq_true rfl, Nat.le_of_ble_eq_true rfl⟩) hK hN hW.1 rfl rfl rfl hl.1 rfl (Nat.le_of_ble_eq_true rfl) dP_cell_7 ⟨Nat.zero_le _, Nat.zero_le _⟩ (fun r1 hp => ?_)
  have h := h r1 hp
  obtain ⟨q1, h⟩ := h
  obtain ⟨ht, hf⟩ := h
  refine ki_if_ne (tgt := 23) hx hb dP_cell_10 (by decide) q1 (fun c1 => ?_) (fun c1 => ?_)
  · have h := ht c1
    refine lv_aload_n hx hb dP_cell_23 rfl (lv_at hl 0 rfl) ?_
    refine k_get (ci := 0) (C := R_P) (T := T_P) (N := 7) hx hb hts (fun w q => gG_in (inG_P w q)) hown hK hW.1 0 rfl rfl 0 (by decide) (hts _ (gG_in mw_198)) rfl dP_cell_24 ?_
    refine lv_iload_n hx hb dP_cell_27 rfl (lv_at hl 1 rfl) ?_
    refine lv_iload_n hx hb dP_cell_28 rfl (lv_at hl 2 rfl) ?_
    refine lv_iload_n hx hb dP_cell_29 rfl (lv_at hl 3 rfl) ?_
    refine lv_iload hx hb dP_cell_30 (lv_at hl 4 rfl) ?_
    obtain ⟨P2, g2, h⟩ := h
    refine kc_vi (As := [.int (iI p0), .int (iI p1), .int (iI p2), .int (iI p3)]) (rest := []) (ci := 1) (q0 := 1) S (c_S_tell l dC dI ad kc nn σ p0 p1 p2 p3 g2) (cwV 4 hts (gV mw_394 mw_395 mw_396 mw_2 k_S_tell) rfl rfl rfl (by decide +kernel) ⟨Nat.le_of_ble_eq_true rfl, Nat.le_of_ble_eq_true rfl⟩) hK hN hA hW (fun _ => rfl) rfl rfl rfl hl.1 rfl (Nat.le_of_ble_eq_true rfl) dP_cell_32 ⟨Nat.zero_le _, Nat.zero_le _⟩ (fun r2 s1 H locs hp hW => ?_)
    have h := h r2 s1 hp
    refine lv_istore (lv' := [(5, .int (iI r2)), (0, .ref (ad 0)), (1, .int (iI p0)), (2, .int (iI p1)), (3, .int (iI p2)), (4, .int (iI p3))]) hx hb dP_cell_35 hl (by decide) rfl (fun ls hl => ?_)
    refine lv_iload hx hb dP_cell_37 (lv_at hl 0 rfl) ?_
    obtain ⟨q2, h⟩ := h
    obtain ⟨ht, hf⟩ := h
    refine ki_if_eq (tgt := 63) hx hb dP_cell_39 (by decide) q2 (fun c2 => ?_) (fun c2 => ?_)
    · have h := ht c2
      refine lv_iload hx hb dP_cell_63 (lv_at hl 0 rfl) ?_
      exact k_zret hx hb hr hlocks hW dP_cell_65 h.1 h.2
    · have h := hf c2
      refine lv_aload_n hx hb dP_cell_42 rfl (lv_at hl 1 rfl) ?_
      refine k_get (ci := 0) (C := R_P) (T := T_P) (N := 7) hx hb hts (fun w q => gG_in (inG_P w q)) hown hK hW.1 0 rfl rfl 1 (by decide) (hts _ (gG_in mw_199)) rfl dP_cell_43 ?_
      obtain ⟨P3, g3, h⟩ := h
      refine kc_vv (As := []) (rest := []) (ci := 2) (q0 := 2) S (c_A_forget l dC dI ad kc nn s1 g3) (cwV 0 hts (gV mw_398 mw_399 mw_400 mw_4 k_A_forget) rfl rfl rfl (by decide +kernel) ⟨Nat.le_of_ble_eq_true rfl, Nat.le_of_ble_eq_true rfl⟩) hK hN hA hW (fun _ => rfl) rfl rfl rfl hl.1 rfl (Nat.le_of_ble_eq_true rfl) dP_cell_46 ⟨Nat.zero_le _, Nat.zero_le _⟩ (fun s2 H locs hp hW => ?_)
      have h := h s2 hp
      refine lv_aload_n hx hb dP_cell_49 rfl (lv_at hl 1 rfl) ?_
      refine k_get (ci := 0) (C := R_P) (T := T_P) (N := 7) hx hb hts (fun w q => gG_in (inG_P w q)) hown hK hW.1 0 rfl rfl 2 (by decide) (hts _ (gG_in mw_200)) rfl dP_cell_50 ?_
      obtain ⟨P4, g4, h⟩ := h
      refine kc_vv (As := []) (rest := []) (ci := 3) (q0 := 3) S (c_R_forget l dC dI ad kc nn s2 g4) (cwV 0 hts (gV mw_402 mw_403 mw_404 mw_5 k_R_forget) rfl rfl rfl (by decide +kernel) ⟨Nat.le_of_ble_eq_true rfl, Nat.le_of_ble_eq_true rfl⟩) hK hN hA hW (fun _ => rfl) rfl rfl rfl hl.1 rfl (Nat.le_of_ble_eq_true rfl) dP_cell_53 ⟨Nat.zero_le _, Nat.zero_le _⟩ (fun s3 H locs hp hW => ?_)
      have h := h s3 hp
      refine lv_aload_n hx hb dP_cell_56 rfl (lv_at hl 1 rfl) ?_
      refine k_get (ci := 0) (C := R_P) (T := T_P) (N := 7) hx hb hts (fun w q => gG_in (inG_P w q)) hown hK hW.1 0 rfl rfl 5 (by decide) (hts _ (gG_in mw_203)) rfl dP_cell_57 ?_
      obtain ⟨P5, g5, h⟩ := h
      refine kc_vv (As := []) (rest := []) (ci := 6) (q0 := 6) S (c_C_forget l dC dI ad kc nn s3 g5) (cwV 0 hts (gV mw_406 mw_407 mw_408 mw_8 k_C_forget) rfl rfl rfl (by decide +kernel) ⟨Nat.le_of_ble_eq_true rfl, Nat.le_of_ble_eq_true rfl⟩) hK hN hA hW (fun _ => rfl) rfl rfl rfl hl.1 rfl (Nat.le_of_ble_eq_true rfl) dP_cell_60 ⟨Nat.zero_le _, Nat.zero_le _⟩ (fun s4 H locs hp hW => ?_)
      have h := h s4 hp
      refine lv_iload hx hb dP_cell_63 (lv_at hl 0 rfl) ?_
      exact k_zret hx hb hr hlocks hW dP_cell_65 h.1 h.2
  · have h := hf c1
    exact False.elim h
abbrev rm_A_keep : Room := { frames := 0, cells := 0, slots := 0, locals := 0 }
set_option maxHeartbeats 4000000 in
set_option maxRecDepth 100000 in
theorem c_A_keep (l : Launch) (dC : Nat → ClassId) (dI : Nat → Nat → Nat) (ad : Nat → Nat) (kc : Nat → ClassId) (nn : Nat → Nat) (σ : kM) (p0 : Int) (p1 : Int) (p2 : Int) (p3 : Int) (p4 : Int) {P : kM → Prop} (h : wp_A_keep nn σ p0 p1 p2 p3 p4 P) : kMv l y_A_keep ws_A_keep rm_A_keep (dC, dI) vwC (tyC kc) (wC ad kc nn) nsG σ [.ref (ad 2), .int (iI p0), .int (iI p1), .int (iI p2), .int (iI p3), .int (iI p4)] P := by
  intro sz
  refine k_enter (cc := b_A_keep) (maxL := 6) (ret := none) (by decide) rfl (Nat.le_of_ble_eq_true rfl) ?_
  intro p e s m below meth c ls S hr hlocks hsz hA hW hK hN hl
  generalize va_A ((wC ad kc nn) σ) sz = A at hA hW ⊢
  generalize ([.ref (ad 2), .int (iI p0), .int (iI p1), .int (iI p2), .int (iI p3), .int (iI p4)] : List Value).toArray = args at S ⊢
  obtain ⟨hx, hb, hml, hown, hts⟩ := id S
  have hl : lv_has ls 6 [(0, .ref (ad 2)), (1, .int (iI p0)), (2, .int (iI p1)), (3, .int (iI p2)), (4, .int (iI p3)), (5, .int (iI p4))] := hl
  unfold wp_A_keep at h
  refine lv_aload_n hx hb dA_keep_0 rfl (lv_at hl 0 rfl) ?_
  refine lv_iload_n hx hb dA_keep_1 rfl (lv_at hl 1 rfl) ?_
  obtain ⟨s1, es1⟩ : ∃ z : kM, z = va_up σ 2 (va_up (σ 2) 2 p0) := ⟨_, rfl⟩
  refine k_put (ty := .int) (ws' := wC ad kc nn s1) (ci := 2) (C := R_A) (T := T_A) (N := 4) hx hb hts (fun w q => gG_in (inG_A w q)) ty_A tk_A nm_A hown hK hW 2 rfl rfl 2 (by decide) (hts _ (gG_in mw_76)) rfl (by decide +kernel) rfl rfl (Nat.le_of_ble_eq_true rfl) (by rw [es1]; exact wC_p2_2 ..) dA_keep_2 (fun H locs hW => ?_)
  have h := h s1 es1
  refine lv_aload_n hx hb dA_keep_5 rfl (lv_at hl 0 rfl) ?_
  refine k_get (ci := 2) (C := R_A) (T := T_A) (N := 4) hx hb hts (fun w q => gG_in (inG_A w q)) hown hK hW.1 2 rfl rfl 1 (by decide) (hts _ (gG_in mw_75)) rfl dA_keep_6 ?_
  refine lv_iconst (v := iI 0) hx hb dA_keep_9 rfl ?_
  refine lv_iload_n hx hb dA_keep_10 rfl (lv_at hl 2 rfl) ?_
  obtain ⟨s2, es2⟩ : ∃ z : kM, z = va_up s1 12 (va_up (s1 12) 0 p1) := ⟨_, rfl⟩
  refine k_iast (ws' := wC ad kc nn s2) hx hb hK hW 12 4 (s1 12) rfl rfl ⟨by decide, by decide, by decide⟩ (by rw [es2]; exact wC_a12 ..) dA_keep_11 (fun H locs hW => ?_)
  have h := h s2 es2
  refine lv_aload_n hx hb dA_keep_12 rfl (lv_at hl 0 rfl) ?_
  refine k_get (ci := 2) (C := R_A) (T := T_A) (N := 4) hx hb hts (fun w q => gG_in (inG_A w q)) hown hK hW.1 2 rfl rfl 1 (by decide) (hts _ (gG_in mw_75)) rfl dA_keep_13 ?_
  refine lv_iconst (v := iI 1) hx hb dA_keep_16 rfl ?_
  refine lv_iload_n hx hb dA_keep_17 rfl (lv_at hl 3 rfl) ?_
  obtain ⟨s3, es3⟩ : ∃ z : kM, z = va_up s2 12 (va_up (s2 12) 1 p2) := ⟨_, rfl⟩
  refine k_iast (ws' := wC ad kc nn s3) hx hb hK hW 12 4 (s2 12) rfl rfl ⟨by decide, by decide, by decide⟩ (by rw [es3]; exact wC_a12 ..) dA_keep_18 (fun H locs hW => ?_)
  have h := h s3 es3
  refine lv_aload_n hx hb dA_keep_19 rfl (lv_at hl 0 rfl) ?_
  refine k_get (ci := 2) (C := R_A) (T := T_A) (N := 4) hx hb hts (fun w q => gG_in (inG_A w q)) hown hK hW.1 2 rfl rfl 1 (by decide) (hts _ (gG_in mw_75)) rfl dA_keep_20 ?_
  refine lv_iconst (v := iI 2) hx hb dA_keep_23 rfl ?_
  refine lv_iload hx hb dA_keep_24 (lv_at hl 4 rfl) ?_
  obtain ⟨s4, es4⟩ : ∃ z : kM, z = va_up s3 12 (va_up (s3 12) 2 p3) := ⟨_, rfl⟩
  refine k_iast (ws' := wC ad kc nn s4) hx hb hK hW 12 4 (s3 12) rfl rfl ⟨by decide, by decide, by decide⟩ (by rw [es4]; exact wC_a12 ..) dA_keep_26 (fun H locs hW => ?_)
  have h := h s4 es4
  refine lv_aload_n hx hb dA_keep_27 rfl (lv_at hl 0 rfl) ?_
  refine k_get (ci := 2) (C := R_A) (T := T_A) (N := 4) hx hb hts (fun w q => gG_in (inG_A w q)) hown hK hW.1 2 rfl rfl 1 (by decide) (hts _ (gG_in mw_75)) rfl dA_keep_28 ?_
  refine lv_iconst (v := iI 3) hx hb dA_keep_31 rfl ?_
  refine lv_iload hx hb dA_keep_32 (lv_at hl 5 rfl) ?_
  obtain ⟨s5, es5⟩ : ∃ z : kM, z = va_up s4 12 (va_up (s4 12) 3 p4) := ⟨_, rfl⟩
  refine k_iast (ws' := wC ad kc nn s5) hx hb hK hW 12 4 (s4 12) rfl rfl ⟨by decide, by decide, by decide⟩ (by rw [es5]; exact wC_a12 ..) dA_keep_34 (fun H locs hW => ?_)
  have h := h s5 es5
  exact k_vret hx hb hr hlocks hW dA_keep_35 h
abbrev rm_S_side : Room := { frames := 0, cells := 0, slots := 0, locals := 0 }
set_option maxHeartbeats 4000000 in
set_option maxRecDepth 100000 in
theorem c_S_side (l : Launch) (dC : Nat → ClassId) (dI : Nat → Nat → Nat) (ad : Nat → Nat) (kc : Nat → ClassId) (nn : Nat → Nat) (σ : kM) {P : Int → Prop} (h : wp_S_side nn σ P) : kMp l y_S_side ws_S_side rm_S_side (dC, dI) vwC (tyC kc) (wC ad kc nn) nsG σ [.ref (ad 1)] P := by
  refine k_enterP (cc := b_S_side) (maxL := 1) (ret := (some .int)) (by decide) rfl (Nat.le_of_ble_eq_true rfl) ?_
  intro p e s m below meth c ls S hr hlocks hP hK hN hl
  generalize ([.ref (ad 1)] : List Value).toArray = args at S ⊢
  obtain ⟨hx, hb, hml, hown, hts⟩ := id S
  have hl : lv_has ls 1 [(0, .ref (ad 1))] := hl
  unfold wp_S_side at h
  refine lv_aload_n hx hb dS_side_0 rfl (lv_at hl 0 rfl) ?_
  refine k_get (ci := 1) (C := R_S) (T := T_S) (N := 8) hx hb hts (fun w q => gG_in (inG_S w q)) hown hK hP 1 rfl rfl 1 (by decide) (hts _ (gG_in mw_42)) rfl dS_side_1 ?_
  exact k_iretP hx hb hr hlocks dS_side_4 h
abbrev rm_S_parts : Room := { frames := 0, cells := 0, slots := 0, locals := 0 }
set_option maxHeartbeats 4000000 in
set_option maxRecDepth 100000 in
theorem c_S_parts (l : Launch) (dC : Nat → ClassId) (dI : Nat → Nat → Nat) (ad : Nat → Nat) (kc : Nat → ClassId) (nn : Nat → Nat) (σ : kM) {P : Int → Prop} (h : wp_S_parts nn σ P) : kMp l y_S_parts ws_S_parts rm_S_parts (dC, dI) vwC (tyC kc) (wC ad kc nn) nsG σ [.ref (ad 1)] P := by
  refine k_enterP (cc := b_S_parts) (maxL := 1) (ret := (some .int)) (by decide) rfl (Nat.le_of_ble_eq_true rfl) ?_
  intro p e s m below meth c ls S hr hlocks hP hK hN hl
  generalize ([.ref (ad 1)] : List Value).toArray = args at S ⊢
  obtain ⟨hx, hb, hml, hown, hts⟩ := id S
  have hl : lv_has ls 1 [(0, .ref (ad 1))] := hl
  unfold wp_S_parts at h
  refine lv_aload_n hx hb dS_parts_0 rfl (lv_at hl 0 rfl) ?_
  refine k_get (ci := 1) (C := R_S) (T := T_S) (N := 8) hx hb hts (fun w q => gG_in (inG_S w q)) hown hK hP 1 rfl rfl 2 (by decide) (hts _ (gG_in mw_43)) rfl dS_parts_1 ?_
  exact k_iretP hx hb hr hlocks dS_parts_4 h
abbrev rm_S_isIn : Room := { frames := 2, cells := 0, slots := 0, locals := 45 }
set_option maxHeartbeats 4000000 in
set_option maxRecDepth 100000 in
theorem c_S_isIn (l : Launch) (dC : Nat → ClassId) (dI : Nat → Nat → Nat) (ad : Nat → Nat) (kc : Nat → ClassId) (nn : Nat → Nat) (σ : kM) (p0 : Int) (p1 : Int) (p2 : Int) {P : Int → Prop} (h : wp_S_isIn nn σ p0 p1 p2 P) : kMp l y_S_isIn ws_S_isIn rm_S_isIn (dC, dI) vwC (tyC kc) (wC ad kc nn) nsG σ [.ref (ad 1), .int (iI p0), .int (iI p1), .int (iI p2)] P := by
  refine k_enterP (cc := b_S_isIn) (maxL := 4) (ret := (some .boolean)) (by decide) rfl (Nat.le_of_ble_eq_true rfl) ?_
  intro p e s m below meth c ls S hr hlocks hP hK hN hl
  generalize ([.ref (ad 1), .int (iI p0), .int (iI p1), .int (iI p2)] : List Value).toArray = args at S ⊢
  obtain ⟨hx, hb, hml, hown, hts⟩ := id S
  have hl : lv_has ls 4 [(0, .ref (ad 1)), (1, .int (iI p0)), (2, .int (iI p1)), (3, .int (iI p2))] := hl
  unfold wp_S_isIn at h
  refine lv_aload_n hx hb dS_isIn_0 rfl (lv_at hl 0 rfl) ?_
  refine lv_iload_n hx hb dS_isIn_1 rfl (lv_at hl 1 rfl) ?_
  refine lv_iload_n hx hb dS_isIn_2 rfl (lv_at hl 2 rfl) ?_
  refine lv_iload_n hx hb dS_isIn_3 rfl (lv_at hl 3 rfl) ?_
  obtain ⟨P1, g1, h⟩ := h
  refine kc_vp (As := [.int (iI p0), .int (iI p1), .int (iI p2)]) (rest := []) (ci := 1) (q0 := 1) S (c_S_hasCell l dC dI ad kc nn σ p0 p1 p2 g1) (cwV 3 hts (gV mw_265 mw_266 mw_267 mw_2 k_S_hasCell) rfl rfl rfl (by decide +kernel) ⟨Nat.le_of_ble_eq_true rfl, Nat.le_of_ble_eq_true rfl⟩) hK hN hP rfl rfl rfl hl.1 rfl (Nat.le_of_ble_eq_true rfl) dS_isIn_4 ⟨Nat.zero_le _, Nat.zero_le _⟩ (fun r1 hp => ?_)
  have h := h r1 hp
  obtain ⟨q1, h⟩ := h
  obtain ⟨ht, hf⟩ := h
  refine ki_if_eq (tgt := 29) hx hb dS_isIn_7 (by decide) q1 (fun c1 => ?_) (fun c1 => ?_)
  · have h := ht c1
    refine lv_iconst (v := iI 0) hx hb dS_isIn_29 rfl ?_
    exact k_zretP hx hb hr hlocks dS_isIn_30 (by decide) h
  · have h := hf c1
    refine lv_aload_n hx hb dS_isIn_10 rfl (lv_at hl 0 rfl) ?_
    refine k_get (ci := 1) (C := R_S) (T := T_S) (N := 8) hx hb hts (fun w q => gG_in (inG_S w q)) hown hK hP 1 rfl rfl 4 (by decide) (hts _ (gG_in mw_45)) rfl dS_isIn_11 ?_
    refine lv_aload_n hx hb dS_isIn_14 rfl (lv_at hl 0 rfl) ?_
    refine lv_iload_n hx hb dS_isIn_15 rfl (lv_at hl 1 rfl) ?_
    refine lv_iload_n hx hb dS_isIn_16 rfl (lv_at hl 2 rfl) ?_
    refine lv_iload_n hx hb dS_isIn_17 rfl (lv_at hl 3 rfl) ?_
    refine kc_vp (As := [.int (iI p0), .int (iI p1), .int (iI p2)]) (rest := [.ref (ad 8)]) (ci := 1) (q0 := 1) S (c_S_indexOf l dC dI ad kc nn σ p0 p1 p2 (P := fun r => ((((p0 * (σ 1 1)) + p2) * (σ 1 1)) + p1) = r) rfl) (cwV 3 hts (gV mw_272 mw_274 ps_6 mw_2 k_S_indexOf) rfl rfl rfl (by decide +kernel) ⟨Nat.le_of_ble_eq_true rfl, Nat.le_of_ble_eq_true rfl⟩) hK hN hP rfl rfl rfl hl.1 rfl (Nat.le_of_ble_eq_true rfl) dS_isIn_18 ⟨Nat.zero_le _, Nat.zero_le _⟩ (fun r2 hp => ?_)
    subst hp
    obtain ⟨q2, h⟩ := h
    refine k_zald hx hb hK hP 8 0 (σ 8) rfl rfl q2 dS_isIn_21 ?_
    obtain ⟨q3, h⟩ := h
    obtain ⟨ht, hf⟩ := h
    refine ki_if_eq (tgt := 29) hx hb dS_isIn_22 (by decide) q3 (fun c2 => ?_) (fun c2 => ?_)
    · have h := ht c2
      refine lv_iconst (v := iI 0) hx hb dS_isIn_29 rfl ?_
      exact k_zretP hx hb hr hlocks dS_isIn_30 (by decide) h
    · have h := hf c2
      refine lv_iconst (v := iI 1) hx hb dS_isIn_25 rfl ?_
      refine lv_goto (tgt := 30) hx hb dS_isIn_26 (by decide) ?_
      exact k_zretP hx hb hr hlocks dS_isIn_30 (by decide) h
abbrev rm_S_gap : Room := { frames := 0, cells := 0, slots := 0, locals := 0 }
set_option maxHeartbeats 4000000 in
set_option maxRecDepth 100000 in
theorem c_S_gap (l : Launch) (dC : Nat → ClassId) (dI : Nat → Nat → Nat) (ad : Nat → Nat) (kc : Nat → ClassId) (nn : Nat → Nat) (σ : kM) (p0 : Int) (p1 : Int) {P : Int → Prop} (h : wp_S_gap nn σ p0 p1 P) : kMp l y_S_gap ws_S_gap rm_S_gap (dC, dI) vwC (tyC kc) (wC ad kc nn) nsG σ [.ref (ad 1), .int (iI p0), .int (iI p1)] P := by
  refine k_enterP (cc := b_S_gap) (maxL := 5) (ret := (some .int)) (by decide) rfl (Nat.le_of_ble_eq_true rfl) ?_
  intro p e s m below meth c ls S hr hlocks hP hK hN hl
  generalize ([.ref (ad 1), .int (iI p0), .int (iI p1)] : List Value).toArray = args at S ⊢
  obtain ⟨hx, hb, hml, hown, hts⟩ := id S
  have hl : lv_has ls 5 [(0, .ref (ad 1)), (1, .int (iI p0)), (2, .int (iI p1))] := hl
  unfold wp_S_gap at h
  refine lv_iload_n hx hb dS_gap_0 rfl (lv_at hl 2 rfl) ?_
  refine lv_aload_n hx hb dS_gap_1 rfl (lv_at hl 0 rfl) ?_
  refine k_get (ci := 1) (C := R_S) (T := T_S) (N := 8) hx hb hts (fun w q => gG_in (inG_S w q)) hown hK hP 1 rfl rfl 2 (by decide) (hts _ (gG_in mw_43)) rfl dS_gap_2 ?_
  refine ki_mul hx hb dS_gap_5 ?_
  refine ki_nm (fun v1 ev1 => ?_)
  have h := h v1 ev1
  refine lv_istore_n (lv' := [(3, .int (iI v1)), (0, .ref (ad 1)), (1, .int (iI p0)), (2, .int (iI p1))]) hx hb dS_gap_6 rfl hl (by decide) rfl (fun ls hl => ?_)
  refine lv_iload_n hx hb dS_gap_7 rfl (lv_at hl 0 rfl) ?_
  refine lv_aload_n hx hb dS_gap_8 rfl (lv_at hl 1 rfl) ?_
  refine k_get (ci := 1) (C := R_S) (T := T_S) (N := 8) hx hb hts (fun w q => gG_in (inG_S w q)) hown hK hP 1 rfl rfl 2 (by decide) (hts _ (gG_in mw_43)) rfl dS_gap_9 ?_
  refine ki_add hx hb dS_gap_12 ?_
  refine ki_nm (fun v2 ev2 => ?_)
  have h := h v2 ev2
  refine lv_istore (lv' := [(4, .int (iI v2)), (3, .int (iI v1)), (0, .ref (ad 1)), (1, .int (iI p0)), (2, .int (iI p1))]) hx hb dS_gap_13 hl (by decide) rfl (fun ls hl => ?_)
  refine lv_iload_n hx hb dS_gap_15 rfl (lv_at hl 3 rfl) ?_
  refine lv_iload_n hx hb dS_gap_16 rfl (lv_at hl 1 rfl) ?_
  obtain ⟨q1, h⟩ := h
  obtain ⟨q2, h⟩ := h
  obtain ⟨ht, hf⟩ := h
  refine ki_icmp_ge (tgt := 26) hx hb dS_gap_17 (by decide) q1 q2 (fun c1 => ?_) (fun c1 => ?_)
  · have h := ht c1
    refine lv_iload_n hx hb dS_gap_26 rfl (lv_at hl 3 rfl) ?_
    refine lv_iload hx hb dS_gap_27 (lv_at hl 0 rfl) ?_
    obtain ⟨q3, h⟩ := h
    obtain ⟨q4, h⟩ := h
    obtain ⟨ht, hf⟩ := h
    refine ki_icmp_le (tgt := 39) hx hb dS_gap_29 (by decide) q3 q4 (fun c2 => ?_) (fun c2 => ?_)
    · have h := ht c2
      refine lv_iconst (v := iI 0) hx hb dS_gap_39 rfl ?_
      exact k_iretP hx hb hr hlocks dS_gap_40 h
    · have h := hf c2
      refine lv_iload_n hx hb dS_gap_32 rfl (lv_at hl 3 rfl) ?_
      refine lv_iload hx hb dS_gap_33 (lv_at hl 0 rfl) ?_
      refine ki_sub hx hb dS_gap_35 ?_
      refine lv_goto (tgt := 40) hx hb dS_gap_36 (by decide) ?_
      exact k_iretP hx hb hr hlocks dS_gap_40 h
  · have h := hf c1
    refine lv_iload_n hx hb dS_gap_20 rfl (lv_at hl 1 rfl) ?_
    refine lv_iload_n hx hb dS_gap_21 rfl (lv_at hl 3 rfl) ?_
    refine ki_sub hx hb dS_gap_22 ?_
    refine lv_goto (tgt := 40) hx hb dS_gap_23 (by decide) ?_
    exact k_iretP hx hb hr hlocks dS_gap_40 h
abbrev rm_S_nearestInColumnOf : Room := { frames := 3, cells := 0, slots := 0, locals := 68 }
set_option maxHeartbeats 4000000 in
set_option maxRecDepth 100000 in
theorem c_S_nearestInColumnOf (l : Launch) (dC : Nat → ClassId) (dI : Nat → Nat → Nat) (ad : Nat → Nat) (kc : Nat → ClassId) (nn : Nat → Nat) (σ : kM) (p0 : Int) (p1 : Int) (p2 : Int) {P : Int → Prop} (h : wp_S_nearestInColumnOf nn σ p0 p1 p2 P) : kMp l y_S_nearestInColumnOf ws_S_nearestInColumnOf rm_S_nearestInColumnOf (dC, dI) vwC (tyC kc) (wC ad kc nn) nsG σ [.ref (ad 1), .int (iI p0), .int (iI p1), .int (iI p2)] P := by
  refine k_enterP (cc := b_S_nearestInColumnOf) (maxL := 7) (ret := (some .int)) (by decide) rfl (Nat.le_of_ble_eq_true rfl) ?_
  intro p e s m below meth c ls S hr hlocks hP hK hN hl
  generalize ([.ref (ad 1), .int (iI p0), .int (iI p1), .int (iI p2)] : List Value).toArray = args at S ⊢
  obtain ⟨hx, hb, hml, hown, hts⟩ := id S
  have hl : lv_has ls 7 [(0, .ref (ad 1)), (1, .int (iI p0)), (2, .int (iI p1)), (3, .int (iI p2))] := hl
  unfold wp_S_nearestInColumnOf at h
  refine lv_ldc (v := iI 2147483647) hx hb hown (hts _ (gG_in mc_260)) dS_nearestInColumnOf_0 ?_
  refine lv_istore (lv' := [(4, .int (iI 2147483647)), (0, .ref (ad 1)), (1, .int (iI p0)), (2, .int (iI p1)), (3, .int (iI p2))]) hx hb dS_nearestInColumnOf_2 hl (by decide) rfl (fun ls hl => ?_)
  refine lv_iconst (v := iI (-1)) hx hb dS_nearestInColumnOf_4 rfl ?_
  refine lv_istore (lv' := [(5, .int (iI (-1))), (4, .int (iI 2147483647)), (0, .ref (ad 1)), (1, .int (iI p0)), (2, .int (iI p1)), (3, .int (iI p2))]) hx hb dS_nearestInColumnOf_5 hl (by decide) rfl (fun ls hl => ?_)
  obtain ⟨Pe1, k1, h, hk1⟩ := h
  have xW1 : ∀ (v3 : Int) (v4 : Int) (ls : Array Slot), lv_has ls 7 [(4, .int (iI v4))] → Pe1 v3 v4 → W p l e (headSpec ws_S_nearestInColumnOf rm_S_nearestInColumnOf).room s m args below meth c s.heap [] 0 0 (MQ below (kQp P) args s 0 0 (fun _ => False)) (F0 m 54 ls []) := by
    intro v3 v4 ls hl h
    have h := hk1 v3 v4 h
    refine lv_iload hx hb dS_nearestInColumnOf_54 (lv_at hl 0 rfl) ?_
    exact k_iretP hx hb hr hlocks dS_nearestInColumnOf_56 h
  have lW1 : ∀ (ki1 : Nat) (v1 : Int) (v2 : Int) (ls : Array Slot), lv_has ls 7 [(5, .int (iI v1)), (4, .int (iI v2)), (0, .ref (ad 1)), (1, .int (iI p0)), (2, .int (iI p1)), (3, .int (iI p2))] → lp_S_nearestInColumnOf_7 nn p0 p1 p2 σ Pe1 ki1 v1 v2 → W p l e (headSpec ws_S_nearestInColumnOf rm_S_nearestInColumnOf).room s m args below meth c s.heap [] 0 0 (MQ below (kQp P) args s 0 0 (fun _ => False)) (F0 m 7 ls []) := by
    intro ki1
    induction ki1 with
    | zero => intro v1 v2 ls hl h; exact h.elim
    | succ ki1 ih1 =>
      intro v1 v2 ls hl h
      have h : lpB_S_nearestInColumnOf_7 nn p0 p1 p2 σ Pe1 (lp_S_nearestInColumnOf_7 nn p0 p1 p2 σ Pe1 ki1) v1 v2 := h
      unfold lpB_S_nearestInColumnOf_7 at h
      refine lv_iload hx hb dS_nearestInColumnOf_7 (lv_at hl 0 rfl) ?_
      refine lv_aload_n hx hb dS_nearestInColumnOf_9 rfl (lv_at hl 2 rfl) ?_
      refine k_get (ci := 1) (C := R_S) (T := T_S) (N := 8) hx hb hts (fun w q => gG_in (inG_S w q)) hown hK hP 1 rfl rfl 1 (by decide) (hts _ (gG_in mw_42)) rfl dS_nearestInColumnOf_10 ?_
      obtain ⟨q1, h⟩ := h
      obtain ⟨q2, h⟩ := h
      obtain ⟨ht, hf⟩ := h
      refine ki_icmp_gt (tgt := 54) hx hb dS_nearestInColumnOf_13 (by decide) q1 q2 (fun c1 => ?_) (fun c1 => ?_)
      · have h := ht c1
        exact xW1 v1 v2 ls (lv_sub hl [1] rfl) h
      · have h := hf c1
        refine lv_aload_n hx hb dS_nearestInColumnOf_16 rfl (lv_at hl 2 rfl) ?_
        refine lv_iload_n hx hb dS_nearestInColumnOf_17 rfl (lv_at hl 3 rfl) ?_
        refine lv_iload_n hx hb dS_nearestInColumnOf_18 rfl (lv_at hl 4 rfl) ?_
        refine lv_iload hx hb dS_nearestInColumnOf_19 (lv_at hl 0 rfl) ?_
        obtain ⟨P1, g1, h⟩ := h
        refine kc_vp (As := [.int (iI p0), .int (iI p1), .int (iI v1)]) (rest := []) (ci := 1) (q0 := 1) S (c_S_isIn l dC dI ad kc nn σ p0 p1 v1 g1) (cwV 3 hts (gV mw_261 mw_263 ps_5 mw_2 k_S_isIn) rfl rfl rfl (by decide +kernel) ⟨Nat.le_of_ble_eq_true rfl, Nat.le_of_ble_eq_true rfl⟩) hK hN hP rfl rfl rfl hl.1 rfl (Nat.le_of_ble_eq_true rfl) dS_nearestInColumnOf_21 ⟨Nat.zero_le _, Nat.zero_le _⟩ (fun r1 hp => ?_)
        have h := h r1 hp
        obtain ⟨q3, h⟩ := h
        obtain ⟨ht, hf⟩ := h
        refine ki_if_ne (tgt := 48) hx hb dS_nearestInColumnOf_24 (by decide) q3 (fun c2 => ?_) (fun c2 => ?_)
        · have h := ht c2
          obtain ⟨v5, ev5⟩ : ∃ z : Int, z = v1 + 1 := ⟨_, rfl⟩
          refine lv_iinc (v := iI v5) (lv' := [(5, .int (iI v5)), (4, .int (iI v2)), (0, .ref (ad 1)), (1, .int (iI p0)), (2, .int (iI p1)), (3, .int (iI p2))]) hx hb dS_nearestInColumnOf_48 hl (k := 0) rfl (by rw [ev5, ← iI_add]; rfl) (by decide) rfl (fun ls hl => ?_)
          have h := h v5 ev5
          refine lv_goto (tgt := 7) hx hb dS_nearestInColumnOf_51 (by decide) ?_
          exact ih1 v5 v2 ls (lv_sub hl [0, 1, 2, 3, 4, 5] rfl) h
        · have h := hf c2
          refine lv_aload_n hx hb dS_nearestInColumnOf_27 rfl (lv_at hl 2 rfl) ?_
          refine lv_iload_n hx hb dS_nearestInColumnOf_28 rfl (lv_at hl 5 rfl) ?_
          refine lv_iload hx hb dS_nearestInColumnOf_29 (lv_at hl 0 rfl) ?_
          obtain ⟨P2, g2, h⟩ := h
          refine kc_vp (As := [.int (iI p2), .int (iI v1)]) (rest := []) (ci := 1) (q0 := 1) S (c_S_gap l dC dI ad kc nn σ p2 v1 g2) (cwV 2 hts (gV mw_276 mw_278 ps_7 mw_2 k_S_gap) rfl rfl rfl (by decide +kernel) ⟨Nat.le_of_ble_eq_true rfl, Nat.le_of_ble_eq_true rfl⟩) hK hN hP rfl rfl rfl hl.1 rfl (Nat.le_of_ble_eq_true rfl) dS_nearestInColumnOf_31 ⟨Nat.zero_le _, Nat.zero_le _⟩ (fun r2 hp => ?_)
          have h := h r2 hp
          refine lv_istore (lv' := [(6, .int (iI r2)), (5, .int (iI v1)), (4, .int (iI v2)), (0, .ref (ad 1)), (1, .int (iI p0)), (2, .int (iI p1)), (3, .int (iI p2))]) hx hb dS_nearestInColumnOf_34 hl (by decide) rfl (fun ls hl => ?_)
          refine lv_iload hx hb dS_nearestInColumnOf_36 (lv_at hl 2 rfl) ?_
          refine lv_iload hx hb dS_nearestInColumnOf_38 (lv_at hl 0 rfl) ?_
          refine lv_iload hx hb dS_nearestInColumnOf_40 (lv_at hl 0 rfl) ?_
          refine ki_mul hx hb dS_nearestInColumnOf_42 ?_
          obtain ⟨q4, h⟩ := h
          obtain ⟨q5, h⟩ := h
          refine kmn hx hb (hml.trans hl.1.symm) hown (hts _ (gG_in mw_280)) (hts _ (gG_in mw_31)) (hts _ (gG_in mw_3)) (hts _ (gG_in mk_min)) ⟨Nat.le_of_ble_eq_true rfl, Nat.le_of_ble_eq_true rfl⟩ ⟨Nat.zero_le _, Nat.zero_le _⟩ q4 q5 dS_nearestInColumnOf_43 ?_
          refine ki_nm (fun v6 ev6 => ?_)
          have h := h v6 ev6
          refine lv_istore (lv' := [(4, .int (iI v6)), (6, .int (iI r2)), (5, .int (iI v1)), (0, .ref (ad 1)), (1, .int (iI p0)), (2, .int (iI p1)), (3, .int (iI p2))]) hx hb dS_nearestInColumnOf_46 hl (by decide) rfl (fun ls hl => ?_)
          obtain ⟨v7, ev7⟩ : ∃ z : Int, z = v1 + 1 := ⟨_, rfl⟩
          refine lv_iinc (v := iI v7) (lv' := [(5, .int (iI v7)), (4, .int (iI v6)), (6, .int (iI r2)), (0, .ref (ad 1)), (1, .int (iI p0)), (2, .int (iI p1)), (3, .int (iI p2))]) hx hb dS_nearestInColumnOf_48 hl (k := 2) rfl (by rw [ev7, ← iI_add]; rfl) (by decide) rfl (fun ls hl => ?_)
          have h := h v7 ev7
          refine lv_goto (tgt := 7) hx hb dS_nearestInColumnOf_51 (by decide) ?_
          exact ih1 v7 v6 ls (lv_sub hl [0, 1, 3, 4, 5, 6] rfl) h
  exact lW1 k1 (-1) 2147483647 ls (lv_sub hl [0, 1, 2, 3, 4, 5] rfl) h
abbrev rm_S_nearestOverColumns : Room := { frames := 1, cells := 0, slots := 0, locals := 24 }
set_option maxHeartbeats 4000000 in
set_option maxRecDepth 100000 in
theorem c_S_nearestOverColumns (l : Launch) (dC : Nat → ClassId) (dI : Nat → Nat → Nat) (ad : Nat → Nat) (kc : Nat → ClassId) (nn : Nat → Nat) (σ : kM) (p0 : Int) {P : Int → Prop} (h : wp_S_nearestOverColumns nn σ p0 P) : kMp l y_S_nearestOverColumns ws_S_nearestOverColumns rm_S_nearestOverColumns (dC, dI) vwC (tyC kc) (wC ad kc nn) nsG σ [.ref (ad 1), .int (iI p0)] P := by
  refine k_enterP (cc := b_S_nearestOverColumns) (maxL := 5) (ret := (some .int)) (by decide) rfl (Nat.le_of_ble_eq_true rfl) ?_
  intro p e s m below meth c ls S hr hlocks hP hK hN hl
  generalize ([.ref (ad 1), .int (iI p0)] : List Value).toArray = args at S ⊢
  obtain ⟨hx, hb, hml, hown, hts⟩ := id S
  have hl : lv_has ls 5 [(0, .ref (ad 1)), (1, .int (iI p0))] := hl
  unfold wp_S_nearestOverColumns at h
  refine lv_ldc (v := iI 2147483647) hx hb hown (hts _ (gG_in mc_260)) dS_nearestOverColumns_0 ?_
  refine lv_istore_n (lv' := [(2, .int (iI 2147483647)), (0, .ref (ad 1)), (1, .int (iI p0))]) hx hb dS_nearestOverColumns_2 rfl hl (by decide) rfl (fun ls hl => ?_)
  refine lv_iconst (v := iI (-1)) hx hb dS_nearestOverColumns_3 rfl ?_
  refine lv_istore_n (lv' := [(3, .int (iI (-1))), (2, .int (iI 2147483647)), (0, .ref (ad 1)), (1, .int (iI p0))]) hx hb dS_nearestOverColumns_4 rfl hl (by decide) rfl (fun ls hl => ?_)
  obtain ⟨Pe1, k1, h, hk1⟩ := h
  have xW1 : ∀ (v3 : Int) (v4 : Int) (ls : Array Slot), lv_has ls 5 [(2, .int (iI v4))] → Pe1 v3 v4 → W p l e (headSpec ws_S_nearestOverColumns rm_S_nearestOverColumns).room s m args below meth c s.heap [] 0 0 (MQ below (kQp P) args s 0 0 (fun _ => False)) (F0 m 46 ls []) := by
    intro v3 v4 ls hl h
    have h := hk1 v3 v4 h
    refine lv_iload_n hx hb dS_nearestOverColumns_46 rfl (lv_at hl 0 rfl) ?_
    exact k_iretP hx hb hr hlocks dS_nearestOverColumns_47 h
  have lW1 : ∀ (ki1 : Nat) (v1 : Int) (v2 : Int) (ls : Array Slot), lv_has ls 5 [(3, .int (iI v1)), (2, .int (iI v2)), (0, .ref (ad 1)), (1, .int (iI p0))] → lp_S_nearestOverColumns_5 nn p0 σ Pe1 ki1 v1 v2 → W p l e (headSpec ws_S_nearestOverColumns rm_S_nearestOverColumns).room s m args below meth c s.heap [] 0 0 (MQ below (kQp P) args s 0 0 (fun _ => False)) (F0 m 5 ls []) := by
    intro ki1
    induction ki1 with
    | zero => intro v1 v2 ls hl h; exact h.elim
    | succ ki1 ih1 =>
      intro v1 v2 ls hl h
      have h : lpB_S_nearestOverColumns_5 nn p0 σ Pe1 (lp_S_nearestOverColumns_5 nn p0 σ Pe1 ki1) v1 v2 := h
      unfold lpB_S_nearestOverColumns_5 at h
      refine lv_iload_n hx hb dS_nearestOverColumns_5 rfl (lv_at hl 0 rfl) ?_
      refine lv_aload_n hx hb dS_nearestOverColumns_6 rfl (lv_at hl 2 rfl) ?_
      refine k_get (ci := 1) (C := R_S) (T := T_S) (N := 8) hx hb hts (fun w q => gG_in (inG_S w q)) hown hK hP 1 rfl rfl 1 (by decide) (hts _ (gG_in mw_42)) rfl dS_nearestOverColumns_7 ?_
      obtain ⟨q1, h⟩ := h
      obtain ⟨q2, h⟩ := h
      obtain ⟨ht, hf⟩ := h
      refine ki_icmp_gt (tgt := 46) hx hb dS_nearestOverColumns_10 (by decide) q1 q2 (fun c1 => ?_) (fun c1 => ?_)
      · have h := ht c1
        exact xW1 v1 v2 ls (lv_sub hl [1] rfl) h
      · have h := hf c1
        refine lv_aload_n hx hb dS_nearestOverColumns_13 rfl (lv_at hl 2 rfl) ?_
        refine lv_iload_n hx hb dS_nearestOverColumns_14 rfl (lv_at hl 3 rfl) ?_
        refine lv_iload_n hx hb dS_nearestOverColumns_15 rfl (lv_at hl 0 rfl) ?_
        obtain ⟨P1, g1, h⟩ := h
        refine kc_vp (As := [.int (iI p0), .int (iI v1)]) (rest := []) (ci := 1) (q0 := 1) S (c_S_gap l dC dI ad kc nn σ p0 v1 g1) (cwV 2 hts (gV mw_276 mw_278 ps_7 mw_2 k_S_gap) rfl rfl rfl (by decide +kernel) ⟨Nat.le_of_ble_eq_true rfl, Nat.le_of_ble_eq_true rfl⟩) hK hN hP rfl rfl rfl hl.1 rfl (Nat.le_of_ble_eq_true rfl) dS_nearestOverColumns_16 ⟨Nat.zero_le _, Nat.zero_le _⟩ (fun r1 hp => ?_)
        have h := h r1 hp
        refine lv_istore (lv' := [(4, .int (iI r1)), (3, .int (iI v1)), (2, .int (iI v2)), (0, .ref (ad 1)), (1, .int (iI p0))]) hx hb dS_nearestOverColumns_19 hl (by decide) rfl (fun ls hl => ?_)
        refine lv_iload_n hx hb dS_nearestOverColumns_21 rfl (lv_at hl 2 rfl) ?_
        refine lv_iload hx hb dS_nearestOverColumns_22 (lv_at hl 0 rfl) ?_
        refine lv_iload hx hb dS_nearestOverColumns_24 (lv_at hl 0 rfl) ?_
        refine ki_mul hx hb dS_nearestOverColumns_26 ?_
        refine lv_aload_n hx hb dS_nearestOverColumns_27 rfl (lv_at hl 3 rfl) ?_
        refine k_get (ci := 1) (C := R_S) (T := T_S) (N := 8) hx hb hts (fun w q => gG_in (inG_S w q)) hown hK hP 1 rfl rfl 7 (by decide) (hts _ (gG_in mw_48)) rfl dS_nearestOverColumns_28 ?_
        refine lv_iload_n hx hb dS_nearestOverColumns_31 rfl (lv_at hl 1 rfl) ?_
        refine lv_iconst (v := iI 1) hx hb dS_nearestOverColumns_32 rfl ?_
        refine ki_add hx hb dS_nearestOverColumns_33 ?_
        obtain ⟨q3, h⟩ := h
        refine k_iald hx hb hK hP 11 3 (σ 11) rfl rfl q3 dS_nearestOverColumns_34 ?_
        refine ki_add hx hb dS_nearestOverColumns_35 ?_
        obtain ⟨q4, h⟩ := h
        obtain ⟨q5, h⟩ := h
        refine kmn hx hb (hml.trans hl.1.symm) hown (hts _ (gG_in mw_280)) (hts _ (gG_in mw_31)) (hts _ (gG_in mw_3)) (hts _ (gG_in mk_min)) ⟨Nat.le_of_ble_eq_true rfl, Nat.le_of_ble_eq_true rfl⟩ ⟨Nat.zero_le _, Nat.zero_le _⟩ q4 q5 dS_nearestOverColumns_36 ?_
        refine ki_nm (fun v5 ev5 => ?_)
        have h := h v5 ev5
        refine lv_istore_n (lv' := [(2, .int (iI v5)), (4, .int (iI r1)), (3, .int (iI v1)), (0, .ref (ad 1)), (1, .int (iI p0))]) hx hb dS_nearestOverColumns_39 rfl hl (by decide) rfl (fun ls hl => ?_)
        obtain ⟨v6, ev6⟩ : ∃ z : Int, z = v1 + 1 := ⟨_, rfl⟩
        refine lv_iinc (v := iI v6) (lv' := [(3, .int (iI v6)), (2, .int (iI v5)), (4, .int (iI r1)), (0, .ref (ad 1)), (1, .int (iI p0))]) hx hb dS_nearestOverColumns_40 hl (k := 2) rfl (by rw [ev6, ← iI_add]; rfl) (by decide) rfl (fun ls hl => ?_)
        have h := h v6 ev6
        refine lv_goto (tgt := 5) hx hb dS_nearestOverColumns_43 (by decide) ?_
        exact ih1 v6 v5 ls (lv_sub hl [0, 1, 3, 4] rfl) h
  exact lW1 k1 (-1) 2147483647 ls (lv_sub hl [0, 1, 2, 3] rfl) h
abbrev rm_S_measure : Room := { frames := 4, cells := 0, slots := 0, locals := 94 }
set_option maxHeartbeats 4000000 in
set_option maxRecDepth 100000 in
theorem c_S_measure (l : Launch) (dC : Nat → ClassId) (dI : Nat → Nat → Nat) (ad : Nat → Nat) (kc : Nat → ClassId) (nn : Nat → Nat) (σ : kM) (p0 : Int) {P : kM → Prop} (h : wp_S_measure nn σ p0 P) : kMv l y_S_measure ws_S_measure rm_S_measure (dC, dI) vwC (tyC kc) (wC ad kc nn) nsG σ [.ref (ad 1), .int (iI p0)] P := by
  intro sz
  refine k_enter (cc := b_S_measure) (maxL := 4) (ret := none) (by decide) rfl (Nat.le_of_ble_eq_true rfl) ?_
  intro p e s m below meth c ls S hr hlocks hsz hA hW hK hN hl
  generalize va_A ((wC ad kc nn) σ) sz = A at hA hW ⊢
  generalize ([.ref (ad 1), .int (iI p0)] : List Value).toArray = args at S ⊢
  obtain ⟨hx, hb, hml, hown, hts⟩ := id S
  have hl : lv_has ls 4 [(0, .ref (ad 1)), (1, .int (iI p0))] := hl
  unfold wp_S_measure at h
  refine lv_iconst (v := iI 0) hx hb dS_measure_0 rfl ?_
  refine lv_istore_n (lv' := [(2, .int (iI 0)), (0, .ref (ad 1)), (1, .int (iI p0))]) hx hb dS_measure_1 rfl hl (by decide) rfl (fun ls hl => ?_)
  obtain ⟨Pe1, k1, h, hk1⟩ := h
  have xW1 : ∀ (v2 : Int) (s2 : kM) (H : Heap) (locs : List Loc) (ls : Array Slot), kW (dC, dI) vwC A s.heap (wC ad kc nn s2) H locs → lv_has ls 4 [] → Pe1 v2 s2 → W p l e (headSpec ws_S_measure rm_S_measure).room s m args below meth c H locs 0 0 (MQ below (kQv (dC, dI) vwC (wC ad kc nn) P A) args s 0 0 A) (F0 m 88 ls []) := by
    intro v2 s2 H locs ls hW hl h
    have h := hk1 v2 s2 h
    exact k_vret hx hb hr hlocks hW dS_measure_88 h
  have lW3 : ∀ (ki3 : Nat) (v1 : Int) (s1 : kM) (H : Heap) (locs : List Loc) (ls : Array Slot), kW (dC, dI) vwC A s.heap (wC ad kc nn s1) H locs → lv_has ls 4 [(2, .int (iI v1)), (0, .ref (ad 1)), (1, .int (iI p0))] → lp_S_measure_2 nn p0 Pe1 ki3 v1 s1 → W p l e (headSpec ws_S_measure rm_S_measure).room s m args below meth c H locs 0 0 (MQ below (kQv (dC, dI) vwC (wC ad kc nn) P A) args s 0 0 A) (F0 m 2 ls []) := by
    intro ki3
    induction ki3 with
    | zero => intro v1 s1 H locs ls hW hl h; exact h.elim
    | succ ki3 ih3 =>
      intro v1 s1 H locs ls hW hl h
      have h : lpB_S_measure_2 nn p0 Pe1 (lp_S_measure_2 nn p0 Pe1 ki3) v1 s1 := h
      unfold lpB_S_measure_2 at h
      refine lv_iload_n hx hb dS_measure_2 rfl (lv_at hl 0 rfl) ?_
      refine lv_aload_n hx hb dS_measure_3 rfl (lv_at hl 1 rfl) ?_
      refine k_get (ci := 1) (C := R_S) (T := T_S) (N := 8) hx hb hts (fun w q => gG_in (inG_S w q)) hown hK hW.1 1 rfl rfl 3 (by decide) (hts _ (gG_in mw_44)) rfl dS_measure_4 ?_
      obtain ⟨q1, h⟩ := h
      obtain ⟨q2, h⟩ := h
      obtain ⟨ht, hf⟩ := h
      refine ki_icmp_ge (tgt := 88) hx hb dS_measure_7 (by decide) q1 q2 (fun c1 => ?_) (fun c1 => ?_)
      · have h := ht c1
        exact xW1 v1 s1 _ _ ls hW (lv_sub hl [] rfl) h
      · have h := hf c1
        refine lv_iconst (v := iI (-1)) hx hb dS_measure_10 rfl ?_
        refine lv_istore_n (lv' := [(3, .int (iI (-1))), (2, .int (iI v1)), (0, .ref (ad 1)), (1, .int (iI p0))]) hx hb dS_measure_11 rfl hl (by decide) rfl (fun ls hl => ?_)
        obtain ⟨Pe2, k2, h, hk2⟩ := h
        have xW3 : ∀ (v4 : Int) (s4 : kM) (H : Heap) (locs : List Loc) (ls : Array Slot), kW (dC, dI) vwC A s.heap (wC ad kc nn s4) H locs → lv_has ls 4 [(2, .int (iI v1)), (0, .ref (ad 1)), (1, .int (iI p0))] → Pe2 v4 s4 → W p l e (headSpec ws_S_measure rm_S_measure).room s m args below meth c H locs 0 0 (MQ below (kQv (dC, dI) vwC (wC ad kc nn) P A) args s 0 0 A) (F0 m 41 ls []) := by
          intro v4 s4 H locs ls hW hl h
          have h := hk2 v4 s4 h
          refine lv_iconst (v := iI 0) hx hb dS_measure_41 rfl ?_
          refine lv_istore_n (lv' := [(3, .int (iI 0)), (2, .int (iI v1)), (0, .ref (ad 1)), (1, .int (iI p0))]) hx hb dS_measure_42 rfl hl (by decide) rfl (fun ls hl => ?_)
          obtain ⟨Pe3, k3, h, hk3⟩ := h
          have xW2 : ∀ (v6 : Int) (s6 : kM) (H : Heap) (locs : List Loc) (ls : Array Slot), kW (dC, dI) vwC A s.heap (wC ad kc nn s6) H locs → lv_has ls 4 [(2, .int (iI v1)), (0, .ref (ad 1)), (1, .int (iI p0))] → Pe3 v6 s6 → W p l e (headSpec ws_S_measure rm_S_measure).room s m args below meth c H locs 0 0 (MQ below (kQv (dC, dI) vwC (wC ad kc nn) P A) args s 0 0 A) (F0 m 82 ls []) := by
            intro v6 s6 H locs ls hW hl h
            have h := hk3 v6 s6 h
            obtain ⟨v7, ev7⟩ : ∃ z : Int, z = v1 + 1 := ⟨_, rfl⟩
            refine lv_iinc (v := iI v7) (lv' := [(2, .int (iI v7)), (0, .ref (ad 1)), (1, .int (iI p0))]) hx hb dS_measure_82 hl (k := 0) rfl (by rw [ev7, ← iI_add]; rfl) (by decide) rfl (fun ls hl => ?_)
            have h := h v7 ev7
            refine lv_goto (tgt := 2) hx hb dS_measure_85 (by decide) ?_
            exact ih3 v7 s6 _ _ ls hW (lv_sub hl [0, 1, 2] rfl) h
          have lW1 : ∀ (ki1 : Nat) (v5 : Int) (s5 : kM) (H : Heap) (locs : List Loc) (ls : Array Slot), kW (dC, dI) vwC A s.heap (wC ad kc nn s5) H locs → lv_has ls 4 [(3, .int (iI v5)), (2, .int (iI v1)), (0, .ref (ad 1)), (1, .int (iI p0))] → lp_S_measure_43 nn p0 v1 Pe3 ki1 v5 s5 → W p l e (headSpec ws_S_measure rm_S_measure).room s m args below meth c H locs 0 0 (MQ below (kQv (dC, dI) vwC (wC ad kc nn) P A) args s 0 0 A) (F0 m 43 ls []) := by
            intro ki1
            induction ki1 with
            | zero => intro v5 s5 H locs ls hW hl h; exact h.elim
            | succ ki1 ih1 =>
              intro v5 s5 H locs ls hW hl h
              have h : lpB_S_measure_43 nn p0 v1 Pe3 (lp_S_measure_43 nn p0 v1 Pe3 ki1) v5 s5 := h
              unfold lpB_S_measure_43 at h
              refine lv_iload_n hx hb dS_measure_43 rfl (lv_at hl 0 rfl) ?_
              refine lv_aload_n hx hb dS_measure_44 rfl (lv_at hl 2 rfl) ?_
              refine k_get (ci := 1) (C := R_S) (T := T_S) (N := 8) hx hb hts (fun w q => gG_in (inG_S w q)) hown hK hW.1 1 rfl rfl 3 (by decide) (hts _ (gG_in mw_44)) rfl dS_measure_45 ?_
              obtain ⟨q3, h⟩ := h
              obtain ⟨q4, h⟩ := h
              obtain ⟨ht, hf⟩ := h
              refine ki_icmp_ge (tgt := 82) hx hb dS_measure_48 (by decide) q3 q4 (fun c2 => ?_) (fun c2 => ?_)
              · have h := ht c2
                exact xW2 v5 s5 _ _ ls hW (lv_sub hl [1, 2, 3] rfl) h
              · have h := hf c2
                refine lv_aload_n hx hb dS_measure_51 rfl (lv_at hl 2 rfl) ?_
                refine k_get (ci := 1) (C := R_S) (T := T_S) (N := 8) hx hb hts (fun w q => gG_in (inG_S w q)) hown hK hW.1 1 rfl rfl 5 (by decide) (hts _ (gG_in mw_46)) rfl dS_measure_52 ?_
                refine lv_iload_n hx hb dS_measure_55 rfl (lv_at hl 3 rfl) ?_
                refine lv_aload_n hx hb dS_measure_56 rfl (lv_at hl 2 rfl) ?_
                refine k_get (ci := 1) (C := R_S) (T := T_S) (N := 8) hx hb hts (fun w q => gG_in (inG_S w q)) hown hK hW.1 1 rfl rfl 3 (by decide) (hts _ (gG_in mw_44)) rfl dS_measure_57 ?_
                refine ki_mul hx hb dS_measure_60 ?_
                refine lv_iload_n hx hb dS_measure_61 rfl (lv_at hl 1 rfl) ?_
                refine ki_add hx hb dS_measure_62 ?_
                refine lv_aload_n hx hb dS_measure_63 rfl (lv_at hl 2 rfl) ?_
                refine k_get (ci := 1) (C := R_S) (T := T_S) (N := 8) hx hb hts (fun w q => gG_in (inG_S w q)) hown hK hW.1 1 rfl rfl 3 (by decide) (hts _ (gG_in mw_44)) rfl dS_measure_64 ?_
                refine ki_mul hx hb dS_measure_67 ?_
                refine lv_iload_n hx hb dS_measure_68 rfl (lv_at hl 0 rfl) ?_
                refine ki_add hx hb dS_measure_69 ?_
                refine lv_aload_n hx hb dS_measure_70 rfl (lv_at hl 2 rfl) ?_
                refine lv_iload_n hx hb dS_measure_71 rfl (lv_at hl 0 rfl) ?_
                obtain ⟨P1, g1, h⟩ := h
                refine kc_vp (As := [.int (iI v5)]) (rest := [.int (iI ((((p0 * (s5 1 3)) + v1) * (s5 1 3)) + v5)), .ref (ad 9)]) (ci := 1) (q0 := 1) S (c_S_nearestOverColumns l dC dI ad kc nn s5 v5 g1) (cwV 1 hts (gV mw_281 mw_283 ps_8 mw_2 k_S_nearestOverColumns) rfl rfl rfl (by decide +kernel) ⟨Nat.le_of_ble_eq_true rfl, Nat.le_of_ble_eq_true rfl⟩) hK hN hW.1 rfl rfl rfl hl.1 rfl (Nat.le_of_ble_eq_true rfl) dS_measure_72 ⟨Nat.zero_le _, Nat.zero_le _⟩ (fun r1 hp => ?_)
                have h := h r1 hp
                obtain ⟨q5, h⟩ := h
                obtain ⟨s7, es7⟩ : ∃ z : kM, z = va_up s5 9 (va_up (s5 9) ((((p0 * (s5 1 3)) + v1) * (s5 1 3)) + v5).toNat r1) := ⟨_, rfl⟩
                refine k_iast (ws' := wC ad kc nn s7) hx hb hK hW 9 1 (s5 9) rfl rfl q5 (by rw [es7]; exact wC_a9 ..) dS_measure_75 (fun H locs hW => ?_)
                have h := h s7 es7
                obtain ⟨v8, ev8⟩ : ∃ z : Int, z = v5 + 1 := ⟨_, rfl⟩
                refine lv_iinc (v := iI v8) (lv' := [(3, .int (iI v8)), (2, .int (iI v1)), (0, .ref (ad 1)), (1, .int (iI p0))]) hx hb dS_measure_76 hl (k := 0) rfl (by rw [ev8, ← iI_add]; rfl) (by decide) rfl (fun ls hl => ?_)
                have h := h v8 ev8
                refine lv_goto (tgt := 43) hx hb dS_measure_79 (by decide) ?_
                exact ih1 v8 s7 _ _ ls hW (lv_sub hl [0, 1, 2, 3] rfl) h
          exact lW1 k3 0 s4 _ _ ls hW (lv_sub hl [0, 1, 2, 3] rfl) h
        have lW2 : ∀ (ki2 : Nat) (v3 : Int) (s3 : kM) (H : Heap) (locs : List Loc) (ls : Array Slot), kW (dC, dI) vwC A s.heap (wC ad kc nn s3) H locs → lv_has ls 4 [(3, .int (iI v3)), (2, .int (iI v1)), (0, .ref (ad 1)), (1, .int (iI p0))] → lp_S_measure_12 nn p0 v1 Pe2 ki2 v3 s3 → W p l e (headSpec ws_S_measure rm_S_measure).room s m args below meth c H locs 0 0 (MQ below (kQv (dC, dI) vwC (wC ad kc nn) P A) args s 0 0 A) (F0 m 12 ls []) := by
          intro ki2
          induction ki2 with
          | zero => intro v3 s3 H locs ls hW hl h; exact h.elim
          | succ ki2 ih2 =>
            intro v3 s3 H locs ls hW hl h
            have h : lpB_S_measure_12 nn p0 v1 Pe2 (lp_S_measure_12 nn p0 v1 Pe2 ki2) v3 s3 := h
            unfold lpB_S_measure_12 at h
            refine lv_iload_n hx hb dS_measure_12 rfl (lv_at hl 0 rfl) ?_
            refine lv_aload_n hx hb dS_measure_13 rfl (lv_at hl 2 rfl) ?_
            refine k_get (ci := 1) (C := R_S) (T := T_S) (N := 8) hx hb hts (fun w q => gG_in (inG_S w q)) hown hK hW.1 1 rfl rfl 1 (by decide) (hts _ (gG_in mw_42)) rfl dS_measure_14 ?_
            obtain ⟨q6, h⟩ := h
            obtain ⟨q7, h⟩ := h
            obtain ⟨ht, hf⟩ := h
            refine ki_icmp_gt (tgt := 41) hx hb dS_measure_17 (by decide) q6 q7 (fun c3 => ?_) (fun c3 => ?_)
            · have h := ht c3
              exact xW3 v3 s3 _ _ ls hW (lv_sub hl [1, 2, 3] rfl) h
            · have h := hf c3
              refine lv_aload_n hx hb dS_measure_20 rfl (lv_at hl 2 rfl) ?_
              refine k_get (ci := 1) (C := R_S) (T := T_S) (N := 8) hx hb hts (fun w q => gG_in (inG_S w q)) hown hK hW.1 1 rfl rfl 7 (by decide) (hts _ (gG_in mw_48)) rfl dS_measure_21 ?_
              refine lv_iload_n hx hb dS_measure_24 rfl (lv_at hl 0 rfl) ?_
              refine lv_iconst (v := iI 1) hx hb dS_measure_25 rfl ?_
              refine ki_add hx hb dS_measure_26 ?_
              refine lv_aload_n hx hb dS_measure_27 rfl (lv_at hl 2 rfl) ?_
              refine lv_iload_n hx hb dS_measure_28 rfl (lv_at hl 3 rfl) ?_
              refine lv_iload_n hx hb dS_measure_29 rfl (lv_at hl 0 rfl) ?_
              refine lv_iload_n hx hb dS_measure_30 rfl (lv_at hl 1 rfl) ?_
              obtain ⟨P2, g2, h⟩ := h
              refine kc_vp (As := [.int (iI p0), .int (iI v3), .int (iI v1)]) (rest := [.int (iI (v3 + 1)), .ref (ad 11)]) (ci := 1) (q0 := 1) S (c_S_nearestInColumnOf l dC dI ad kc nn s3 p0 v3 v1 g2) (cwV 3 hts (gV mw_256 mw_258 ps_4 mw_2 k_S_nearestInColumnOf) rfl rfl rfl (by decide +kernel) ⟨Nat.le_of_ble_eq_true rfl, Nat.le_of_ble_eq_true rfl⟩) hK hN hW.1 rfl rfl rfl hl.1 rfl (Nat.le_of_ble_eq_true rfl) dS_measure_31 ⟨Nat.zero_le _, Nat.zero_le _⟩ (fun r2 hp => ?_)
              have h := h r2 hp
              obtain ⟨q8, h⟩ := h
              obtain ⟨s8, es8⟩ : ∃ z : kM, z = va_up s3 11 (va_up (s3 11) (v3 + 1).toNat r2) := ⟨_, rfl⟩
              refine k_iast (ws' := wC ad kc nn s8) hx hb hK hW 11 3 (s3 11) rfl rfl q8 (by rw [es8]; exact wC_a11 ..) dS_measure_34 (fun H locs hW => ?_)
              have h := h s8 es8
              obtain ⟨v9, ev9⟩ : ∃ z : Int, z = v3 + 1 := ⟨_, rfl⟩
              refine lv_iinc (v := iI v9) (lv' := [(3, .int (iI v9)), (2, .int (iI v1)), (0, .ref (ad 1)), (1, .int (iI p0))]) hx hb dS_measure_35 hl (k := 0) rfl (by rw [ev9, ← iI_add]; rfl) (by decide) rfl (fun ls hl => ?_)
              have h := h v9 ev9
              refine lv_goto (tgt := 12) hx hb dS_measure_38 (by decide) ?_
              exact ih2 v9 s8 _ _ ls hW (lv_sub hl [0, 1, 2, 3] rfl) h
        exact lW2 k2 (-1) s1 _ _ ls hW (lv_sub hl [0, 1, 2, 3] rfl) h
  exact lW3 k1 0 σ _ _ ls hW (lv_sub hl [0, 1, 2] rfl) h
end
section
abbrev rm_S_nearestAt : Room := { frames := 5, cells := 0, slots := 0, locals := 117 }
set_option maxHeartbeats 4000000 in
set_option maxRecDepth 100000 in
theorem c_S_nearestAt (l : Launch) (dC : Nat → ClassId) (dI : Nat → Nat → Nat) (ad : Nat → Nat) (kc : Nat → ClassId) (nn : Nat → Nat) (σ : kM) (p0 : Int) (p1 : Int) (p2 : Int) {P : Int → kM → Prop} (h : wp_S_nearestAt nn σ p0 p1 p2 P) : kMi l y_S_nearestAt ws_S_nearestAt rm_S_nearestAt (dC, dI) vwC (tyC kc) (wC ad kc nn) nsG σ [.ref (ad 1), .int (iI p0), .int (iI p1), .int (iI p2)] P := by
  intro sz
  refine k_enter (cc := b_S_nearestAt) (maxL := 4) (ret := (some .int)) (by decide) rfl (Nat.le_of_ble_eq_true rfl) ?_
  intro p e s m below meth c ls S hr hlocks hsz hA hW hK hN hl
  generalize va_A ((wC ad kc nn) σ) sz = A at hA hW ⊢
  generalize ([.ref (ad 1), .int (iI p0), .int (iI p1), .int (iI p2)] : List Value).toArray = args at S ⊢
  obtain ⟨hx, hb, hml, hown, hts⟩ := id S
  have hl : lv_has ls 4 [(0, .ref (ad 1)), (1, .int (iI p0)), (2, .int (iI p1)), (3, .int (iI p2))] := hl
  unfold wp_S_nearestAt at h
  refine lv_aload_n hx hb dS_nearestAt_0 rfl (lv_at hl 0 rfl) ?_
  refine k_get (ci := 1) (C := R_S) (T := T_S) (N := 8) hx hb hts (fun w q => gG_in (inG_S w q)) hown hK hW.1 1 rfl rfl 6 (by decide) (hts _ (gG_in mw_47)) rfl dS_nearestAt_1 ?_
  refine lv_iload_n hx hb dS_nearestAt_4 rfl (lv_at hl 1 rfl) ?_
  obtain ⟨q1, h⟩ := h
  refine k_zald hx hb hK hW.1 10 2 (σ 10) rfl rfl q1 dS_nearestAt_5 ?_
  obtain ⟨q2, h⟩ := h
  have jW1 : ∀ (s1 : kM) (H : Heap) (locs : List Loc) (ls : Array Slot), kW (dC, dI) vwC A s.heap (wC ad kc nn s1) H locs → lv_has ls 4 [(0, .ref (ad 1)), (1, .int (iI p0)), (2, .int (iI p1)), (3, .int (iI p2))] → jn_S_nearestAt_21 nn p0 p1 p2 P s1 → W p l e (headSpec ws_S_nearestAt rm_S_nearestAt).room s m args below meth c H locs 0 0 (MQ below (kQi (dC, dI) vwC (wC ad kc nn) P A) args s 0 0 A) (F0 m 21 ls []) := by
    intro s1 H locs ls hW hl h
    unfold jn_S_nearestAt_21 at h
    refine lv_aload_n hx hb dS_nearestAt_21 rfl (lv_at hl 0 rfl) ?_
    refine k_get (ci := 1) (C := R_S) (T := T_S) (N := 8) hx hb hts (fun w q => gG_in (inG_S w q)) hown hK hW.1 1 rfl rfl 5 (by decide) (hts _ (gG_in mw_46)) rfl dS_nearestAt_22 ?_
    refine lv_iload_n hx hb dS_nearestAt_25 rfl (lv_at hl 1 rfl) ?_
    refine lv_aload_n hx hb dS_nearestAt_26 rfl (lv_at hl 0 rfl) ?_
    refine k_get (ci := 1) (C := R_S) (T := T_S) (N := 8) hx hb hts (fun w q => gG_in (inG_S w q)) hown hK hW.1 1 rfl rfl 3 (by decide) (hts _ (gG_in mw_44)) rfl dS_nearestAt_27 ?_
    refine ki_mul hx hb dS_nearestAt_30 ?_
    refine lv_iload_n hx hb dS_nearestAt_31 rfl (lv_at hl 3 rfl) ?_
    refine ki_add hx hb dS_nearestAt_32 ?_
    refine lv_aload_n hx hb dS_nearestAt_33 rfl (lv_at hl 0 rfl) ?_
    refine k_get (ci := 1) (C := R_S) (T := T_S) (N := 8) hx hb hts (fun w q => gG_in (inG_S w q)) hown hK hW.1 1 rfl rfl 3 (by decide) (hts _ (gG_in mw_44)) rfl dS_nearestAt_34 ?_
    refine ki_mul hx hb dS_nearestAt_37 ?_
    refine lv_iload_n hx hb dS_nearestAt_38 rfl (lv_at hl 2 rfl) ?_
    refine ki_add hx hb dS_nearestAt_39 ?_
    obtain ⟨q3, h⟩ := h
    refine k_iald hx hb hK hW.1 9 1 (s1 9) rfl rfl q3 dS_nearestAt_40 ?_
    exact k_iret hx hb hr hlocks hW dS_nearestAt_41 h
  obtain ⟨ht, hf⟩ := h
  refine ki_if_eq (tgt := 21) hx hb dS_nearestAt_6 (by decide) q2 (fun c1 => ?_) (fun c1 => ?_)
  · have h := ht c1
    exact jW1 σ _ _ ls hW (lv_sub hl [0, 1, 2, 3] rfl) h
  · have h := hf c1
    refine lv_aload_n hx hb dS_nearestAt_9 rfl (lv_at hl 0 rfl) ?_
    refine lv_iload_n hx hb dS_nearestAt_10 rfl (lv_at hl 1 rfl) ?_
    obtain ⟨P1, g1, h⟩ := h
    refine kc_vv (As := [.int (iI p0)]) (rest := []) (ci := 1) (q0 := 1) S (c_S_measure l dC dI ad kc nn σ p0 g1) (cwV 1 hts (gV mw_252 mw_254 ps_3 mw_2 k_S_measure) rfl rfl rfl (by decide +kernel) ⟨Nat.le_of_ble_eq_true rfl, Nat.le_of_ble_eq_true rfl⟩) hK hN hA hW (fun _ => rfl) rfl rfl rfl hl.1 rfl (Nat.le_of_ble_eq_true rfl) dS_nearestAt_11 ⟨Nat.zero_le _, Nat.zero_le _⟩ (fun s2 H locs hp hW => ?_)
    have h := h s2 hp
    refine lv_aload_n hx hb dS_nearestAt_14 rfl (lv_at hl 0 rfl) ?_
    refine k_get (ci := 1) (C := R_S) (T := T_S) (N := 8) hx hb hts (fun w q => gG_in (inG_S w q)) hown hK hW.1 1 rfl rfl 6 (by decide) (hts _ (gG_in mw_47)) rfl dS_nearestAt_15 ?_
    refine lv_iload_n hx hb dS_nearestAt_18 rfl (lv_at hl 1 rfl) ?_
    refine lv_iconst (v := iI 0) hx hb dS_nearestAt_19 rfl ?_
    obtain ⟨q4, h⟩ := h
    obtain ⟨s3, es3⟩ : ∃ z : kM, z = va_up s2 10 (va_up (s2 10) p0.toNat 0) := ⟨_, rfl⟩
    refine k_zast (ws' := wC ad kc nn s3) hx hb hK hW 10 2 (s2 10) rfl rfl q4 (by decide) (by rw [es3]; exact wC_a10 ..) dS_nearestAt_20 (fun H locs hW => ?_)
    have h := h s3 es3
    exact jW1 s3 _ _ ls hW (lv_sub hl [0, 1, 2, 3] rfl) h
abbrev rm_S_count : Room := { frames := 0, cells := 0, slots := 0, locals := 0 }
set_option maxHeartbeats 4000000 in
set_option maxRecDepth 100000 in
theorem c_S_count (l : Launch) (dC : Nat → ClassId) (dI : Nat → Nat → Nat) (ad : Nat → Nat) (kc : Nat → ClassId) (nn : Nat → Nat) (σ : kM) {P : Int → Prop} (h : wp_S_count nn σ P) : kMp l y_S_count ws_S_count rm_S_count (dC, dI) vwC (tyC kc) (wC ad kc nn) nsG σ [.ref (ad 1)] P := by
  refine k_enterP (cc := b_S_count) (maxL := 1) (ret := (some .int)) (by decide) rfl (Nat.le_of_ble_eq_true rfl) ?_
  intro p e s m below meth c ls S hr hlocks hP hK hN hl
  generalize ([.ref (ad 1)] : List Value).toArray = args at S ⊢
  obtain ⟨hx, hb, hml, hown, hts⟩ := id S
  have hl : lv_has ls 1 [(0, .ref (ad 1))] := hl
  unfold wp_S_count at h
  refine lv_aload_n hx hb dS_count_0 rfl (lv_at hl 0 rfl) ?_
  refine k_get (ci := 1) (C := R_S) (T := T_S) (N := 8) hx hb hts (fun w q => gG_in (inG_S w q)) hown hK hP 1 rfl rfl 0 (by decide) (hts _ (gG_in mw_41)) rfl dS_count_1 ?_
  exact k_iretP hx hb hr hlocks dS_count_4 h
abbrev rm_A_placeAt : Room := { frames := 1, cells := 0, slots := 0, locals := 20 }
set_option maxHeartbeats 4000000 in
set_option maxRecDepth 100000 in
theorem c_A_placeAt (l : Launch) (dC : Nat → ClassId) (dI : Nat → Nat → Nat) (ad : Nat → Nat) (kc : Nat → ClassId) (nn : Nat → Nat) (σ : kM) (p0 : Int) (p1 : Int) (p2 : Int) {P : Int → Prop} (h : wp_A_placeAt nn σ p0 p1 p2 P) : kMp l y_A_placeAt ws_A_placeAt rm_A_placeAt (dC, dI) vwC (tyC kc) (wC ad kc nn) nsG σ [.ref (ad 2), .int (iI p0), .int (iI p1), .int (iI p2)] P := by
  refine k_enterP (cc := b_A_placeAt) (maxL := 4) (ret := (some .int)) (by decide) rfl (Nat.le_of_ble_eq_true rfl) ?_
  intro p e s m below meth c ls S hr hlocks hP hK hN hl
  generalize ([.ref (ad 2), .int (iI p0), .int (iI p1), .int (iI p2)] : List Value).toArray = args at S ⊢
  obtain ⟨hx, hb, hml, hown, hts⟩ := id S
  have hl : lv_has ls 4 [(0, .ref (ad 2)), (1, .int (iI p0)), (2, .int (iI p1)), (3, .int (iI p2))] := hl
  unfold wp_A_placeAt at h
  refine lv_iload_n hx hb dA_placeAt_0 rfl (lv_at hl 2 rfl) ?_
  refine lv_aload_n hx hb dA_placeAt_1 rfl (lv_at hl 0 rfl) ?_
  refine k_get (ci := 2) (C := R_A) (T := T_A) (N := 4) hx hb hts (fun w q => gG_in (inG_A w q)) hown hK hP 2 rfl rfl 0 (by decide) (hts _ (gG_in mw_74)) rfl dA_placeAt_2 ?_
  refine kc_vp (As := []) (rest := [.int (iI p1)]) (ci := 1) (q0 := 1) S (c_S_parts l dC dI ad kc nn σ (P := fun r => (σ 1 2) = r) rfl) (cwV 0 hts (gV mw_244 mw_245 mw_246 mw_2 k_S_parts) rfl rfl rfl (by decide +kernel) ⟨Nat.le_of_ble_eq_true rfl, Nat.le_of_ble_eq_true rfl⟩) hK hN hP rfl rfl rfl hl.1 rfl (Nat.le_of_ble_eq_true rfl) dA_placeAt_5 ⟨Nat.zero_le _, Nat.zero_le _⟩ (fun r1 hp => ?_)
  subst hp
  refine ki_mul hx hb dA_placeAt_8 ?_
  refine lv_iload_n hx hb dA_placeAt_9 rfl (lv_at hl 3 rfl) ?_
  refine lv_iload_n hx hb dA_placeAt_10 rfl (lv_at hl 2 rfl) ?_
  refine ki_sub hx hb dA_placeAt_11 ?_
  refine lv_iload_n hx hb dA_placeAt_12 rfl (lv_at hl 1 rfl) ?_
  refine ki_mul hx hb dA_placeAt_13 ?_
  refine ki_add hx hb dA_placeAt_14 ?_
  exact k_iretP hx hb hr hlocks dA_placeAt_15 h
abbrev rm_A_roomAbove : Room := { frames := 6, cells := 0, slots := 0, locals := 140 }
set_option maxHeartbeats 4000000 in
set_option maxRecDepth 100000 in
theorem c_A_roomAbove (l : Launch) (dC : Nat → ClassId) (dI : Nat → Nat → Nat) (ad : Nat → Nat) (kc : Nat → ClassId) (nn : Nat → Nat) (σ : kM) (p0 : Int) (p1 : Int) (p2 : Int) (p3 : Int) (p4 : Int) {P : Int → kM → Prop} (h : wp_A_roomAbove nn σ p0 p1 p2 p3 p4 P) : kMi l y_A_roomAbove ws_A_roomAbove rm_A_roomAbove (dC, dI) vwC (tyC kc) (wC ad kc nn) nsG σ [.ref (ad 2), .int (iI p0), .int (iI p1), .int (iI p2), .int (iI p3), .int (iI p4)] P := by
  intro sz
  refine k_enter (cc := b_A_roomAbove) (maxL := 10) (ret := (some .int)) (by decide) rfl (Nat.le_of_ble_eq_true rfl) ?_
  intro p e s m below meth c ls S hr hlocks hsz hA hW hK hN hl
  generalize va_A ((wC ad kc nn) σ) sz = A at hA hW ⊢
  generalize ([.ref (ad 2), .int (iI p0), .int (iI p1), .int (iI p2), .int (iI p3), .int (iI p4)] : List Value).toArray = args at S ⊢
  obtain ⟨hx, hb, hml, hown, hts⟩ := id S
  have hl : lv_has ls 10 [(0, .ref (ad 2)), (1, .int (iI p0)), (2, .int (iI p1)), (3, .int (iI p2)), (4, .int (iI p3)), (5, .int (iI p4))] := hl
  unfold wp_A_roomAbove at h
  refine lv_ldc (v := iI 2147483647) hx hb hown (hts _ (gG_in mc_293)) dA_roomAbove_0 ?_
  refine lv_istore (lv' := [(6, .int (iI 2147483647)), (0, .ref (ad 2)), (1, .int (iI p0)), (2, .int (iI p1)), (3, .int (iI p2)), (4, .int (iI p3)), (5, .int (iI p4))]) hx hb dA_roomAbove_2 hl (by decide) rfl (fun ls hl => ?_)
  refine lv_aload_n hx hb dA_roomAbove_4 rfl (lv_at hl 1 rfl) ?_
  refine k_get (ci := 2) (C := R_A) (T := T_A) (N := 4) hx hb hts (fun w q => gG_in (inG_A w q)) hown hK hW.1 2 rfl rfl 0 (by decide) (hts _ (gG_in mw_74)) rfl dA_roomAbove_5 ?_
  refine kc_vp (As := []) (rest := []) (ci := 1) (q0 := 1) S (c_S_count l dC dI ad kc nn σ (P := fun r => (σ 1 0) = r) rfl) (cwV 0 hts (gV mw_294 mw_295 mw_296 mw_2 k_S_count) rfl rfl rfl (by decide +kernel) ⟨Nat.le_of_ble_eq_true rfl, Nat.le_of_ble_eq_true rfl⟩) hK hN hW.1 rfl rfl rfl hl.1 rfl (Nat.le_of_ble_eq_true rfl) dA_roomAbove_8 ⟨Nat.zero_le _, Nat.zero_le _⟩ (fun r1 hp => ?_)
  subst hp
  refine lv_iconst (v := iI 1) hx hb dA_roomAbove_11 rfl ?_
  refine ki_sub hx hb dA_roomAbove_12 ?_
  refine ki_nm (fun v1 ev1 => ?_)
  have h := h v1 ev1
  refine lv_istore (lv' := [(7, .int (iI v1)), (6, .int (iI 2147483647)), (0, .ref (ad 2)), (1, .int (iI p0)), (2, .int (iI p1)), (3, .int (iI p2)), (4, .int (iI p3)), (5, .int (iI p4))]) hx hb dA_roomAbove_13 hl (by decide) rfl (fun ls hl => ?_)
  obtain ⟨Pe1, k1, h, hk1⟩ := h
  have xW1 : ∀ (v4 : Int) (v5 : Int) (s2 : kM) (H : Heap) (locs : List Loc) (ls : Array Slot), kW (dC, dI) vwC A s.heap (wC ad kc nn s2) H locs → lv_has ls 10 [(6, .int (iI v5))] → Pe1 v4 v5 s2 → W p l e (headSpec ws_A_roomAbove rm_A_roomAbove).room s m args below meth c H locs 0 0 (MQ below (kQi (dC, dI) vwC (wC ad kc nn) P A) args s 0 0 A) (F0 m 74 ls []) := by
    intro v4 v5 s2 H locs ls hW hl h
    have h := hk1 v4 v5 s2 h
    refine lv_iload hx hb dA_roomAbove_74 (lv_at hl 0 rfl) ?_
    exact k_iret hx hb hr hlocks hW dA_roomAbove_76 h
  have lW1 : ∀ (ki1 : Nat) (v2 : Int) (v3 : Int) (s1 : kM) (H : Heap) (locs : List Loc) (ls : Array Slot), kW (dC, dI) vwC A s.heap (wC ad kc nn s1) H locs → lv_has ls 10 [(7, .int (iI v2)), (6, .int (iI v3)), (0, .ref (ad 2)), (1, .int (iI p0)), (2, .int (iI p1)), (3, .int (iI p2)), (4, .int (iI p3)), (5, .int (iI p4))] → lp_A_roomAbove_15 nn p0 p1 p2 p3 p4 Pe1 ki1 v2 v3 s1 → W p l e (headSpec ws_A_roomAbove rm_A_roomAbove).room s m args below meth c H locs 0 0 (MQ below (kQi (dC, dI) vwC (wC ad kc nn) P A) args s 0 0 A) (F0 m 15 ls []) := by
    intro ki1
    induction ki1 with
    | zero => intro v2 v3 s1 H locs ls hW hl h; exact h.elim
    | succ ki1 ih1 =>
      intro v2 v3 s1 H locs ls hW hl h
      have h : lpB_A_roomAbove_15 nn p0 p1 p2 p3 p4 Pe1 (lp_A_roomAbove_15 nn p0 p1 p2 p3 p4 Pe1 ki1) v2 v3 s1 := h
      unfold lpB_A_roomAbove_15 at h
      refine lv_iload hx hb dA_roomAbove_15 (lv_at hl 0 rfl) ?_
      obtain ⟨q1, h⟩ := h
      obtain ⟨ht, hf⟩ := h
      refine ki_if_lt (tgt := 74) hx hb dA_roomAbove_17 (by decide) q1 (fun c1 => ?_) (fun c1 => ?_)
      · have h := ht c1
        exact xW1 v2 v3 s1 _ _ ls hW (lv_sub hl [1] rfl) h
      · have h := hf c1
        refine lv_iload hx hb dA_roomAbove_20 (lv_at hl 1 rfl) ?_
        refine lv_iload_n hx hb dA_roomAbove_22 rfl (lv_at hl 3 rfl) ?_
        obtain ⟨q2, h⟩ := h
        obtain ⟨q3, h⟩ := h
        obtain ⟨ht, hf⟩ := h
        refine ki_icmp_le (tgt := 74) hx hb dA_roomAbove_23 (by decide) q2 q3 (fun c2 => ?_) (fun c2 => ?_)
        · have h := ht c2
          exact xW1 v2 v3 s1 _ _ ls hW (lv_sub hl [1] rfl) h
        · have h := hf c2
          refine lv_aload_n hx hb dA_roomAbove_26 rfl (lv_at hl 2 rfl) ?_
          refine lv_iload hx hb dA_roomAbove_27 (lv_at hl 0 rfl) ?_
          refine lv_iload_n hx hb dA_roomAbove_29 rfl (lv_at hl 4 rfl) ?_
          refine lv_iload hx hb dA_roomAbove_30 (lv_at hl 6 rfl) ?_
          refine kc_vp (As := [.int (iI v2), .int (iI p1), .int (iI p3)]) (rest := []) (ci := 2) (q0 := 2) S (c_A_placeAt l dC dI ad kc nn s1 v2 p1 p3 (P := fun r => ((p1 * (s1 1 2)) + ((p3 - p1) * v2)) = r) rfl) (cwV 3 hts (gV mw_298 mw_300 ps_11 mw_4 k_A_placeAt) rfl rfl rfl (by decide +kernel) ⟨Nat.le_of_ble_eq_true rfl, Nat.le_of_ble_eq_true rfl⟩) hK hN hW.1 rfl rfl rfl hl.1 rfl (Nat.le_of_ble_eq_true rfl) dA_roomAbove_32 ⟨Nat.zero_le _, Nat.zero_le _⟩ (fun r2 hp => ?_)
          subst hp
          refine ki_nm (fun v6 ev6 => ?_)
          have h := h v6 ev6
          refine lv_istore (lv' := [(8, .int (iI v6)), (7, .int (iI v2)), (6, .int (iI v3)), (0, .ref (ad 2)), (1, .int (iI p0)), (2, .int (iI p1)), (3, .int (iI p2)), (4, .int (iI p3)), (5, .int (iI p4))]) hx hb dA_roomAbove_35 hl (by decide) rfl (fun ls hl => ?_)
          refine lv_aload_n hx hb dA_roomAbove_37 rfl (lv_at hl 3 rfl) ?_
          refine lv_iload hx hb dA_roomAbove_38 (lv_at hl 1 rfl) ?_
          refine lv_iload_n hx hb dA_roomAbove_40 rfl (lv_at hl 6 rfl) ?_
          refine lv_iload hx hb dA_roomAbove_41 (lv_at hl 8 rfl) ?_
          refine kc_vp (As := [.int (iI v2), .int (iI p2), .int (iI p4)]) (rest := []) (ci := 2) (q0 := 2) S (c_A_placeAt l dC dI ad kc nn s1 v2 p2 p4 (P := fun r => ((p2 * (s1 1 2)) + ((p4 - p2) * v2)) = r) rfl) (cwV 3 hts (gV mw_298 mw_300 ps_11 mw_4 k_A_placeAt) rfl rfl rfl (by decide +kernel) ⟨Nat.le_of_ble_eq_true rfl, Nat.le_of_ble_eq_true rfl⟩) hK hN hW.1 rfl rfl rfl hl.1 rfl (Nat.le_of_ble_eq_true rfl) dA_roomAbove_43 ⟨Nat.zero_le _, Nat.zero_le _⟩ (fun r3 hp => ?_)
          subst hp
          refine ki_nm (fun v7 ev7 => ?_)
          have h := h v7 ev7
          refine lv_istore (lv' := [(9, .int (iI v7)), (8, .int (iI v6)), (7, .int (iI v2)), (6, .int (iI v3)), (0, .ref (ad 2)), (1, .int (iI p0)), (2, .int (iI p1)), (3, .int (iI p2)), (4, .int (iI p3)), (5, .int (iI p4))]) hx hb dA_roomAbove_46 hl (by decide) rfl (fun ls hl => ?_)
          refine lv_iload hx hb dA_roomAbove_48 (lv_at hl 3 rfl) ?_
          refine lv_aload_n hx hb dA_roomAbove_50 rfl (lv_at hl 4 rfl) ?_
          refine k_get (ci := 2) (C := R_A) (T := T_A) (N := 4) hx hb hts (fun w q => gG_in (inG_A w q)) hown hK hW.1 2 rfl rfl 0 (by decide) (hts _ (gG_in mw_74)) rfl dA_roomAbove_51 ?_
          refine lv_iload hx hb dA_roomAbove_54 (lv_at hl 2 rfl) ?_
          refine lv_iload hx hb dA_roomAbove_56 (lv_at hl 1 rfl) ?_
          refine lv_iload hx hb dA_roomAbove_58 (lv_at hl 0 rfl) ?_
          obtain ⟨P1, g1, h⟩ := h
          refine kc_vi (As := [.int (iI v2), .int (iI v6), .int (iI v7)]) (rest := [.int (iI v3)]) (ci := 1) (q0 := 1) S (c_S_nearestAt l dC dI ad kc nn s1 v2 v6 v7 g1) (cwV 3 hts (gV mw_248 mw_249 mw_250 mw_2 k_S_nearestAt) rfl rfl rfl (by decide +kernel) ⟨Nat.le_of_ble_eq_true rfl, Nat.le_of_ble_eq_true rfl⟩) hK hN hA hW (fun _ => rfl) rfl rfl rfl hl.1 rfl (Nat.le_of_ble_eq_true rfl) dA_roomAbove_60 ⟨Nat.zero_le _, Nat.zero_le _⟩ (fun r4 s3 H locs hp hW => ?_)
          have h := h r4 s3 hp
          obtain ⟨q4, h⟩ := h
          obtain ⟨q5, h⟩ := h
          refine kmn hx hb (hml.trans hl.1.symm) hown (hts _ (gG_in mw_302)) (hts _ (gG_in mw_31)) (hts _ (gG_in mw_3)) (hts _ (gG_in mk_min)) ⟨Nat.le_of_ble_eq_true rfl, Nat.le_of_ble_eq_true rfl⟩ ⟨Nat.zero_le _, Nat.zero_le _⟩ q4 q5 dA_roomAbove_63 ?_
          refine ki_nm (fun v8 ev8 => ?_)
          have h := h v8 ev8
          refine lv_istore (lv' := [(6, .int (iI v8)), (9, .int (iI v7)), (8, .int (iI v6)), (7, .int (iI v2)), (0, .ref (ad 2)), (1, .int (iI p0)), (2, .int (iI p1)), (3, .int (iI p2)), (4, .int (iI p3)), (5, .int (iI p4))]) hx hb dA_roomAbove_66 hl (by decide) rfl (fun ls hl => ?_)
          obtain ⟨v9, ev9⟩ : ∃ z : Int, z = v2 + (-1) := ⟨_, rfl⟩
          refine lv_iinc (v := iI v9) (lv' := [(7, .int (iI v9)), (6, .int (iI v8)), (9, .int (iI v7)), (8, .int (iI v6)), (0, .ref (ad 2)), (1, .int (iI p0)), (2, .int (iI p1)), (3, .int (iI p2)), (4, .int (iI p3)), (5, .int (iI p4))]) hx hb dA_roomAbove_68 hl (k := 3) rfl (by rw [ev9, ← iI_add]; rfl) (by decide) rfl (fun ls hl => ?_)
          have h := h v9 ev9
          refine lv_goto (tgt := 15) hx hb dA_roomAbove_71 (by decide) ?_
          exact ih1 v9 v8 s3 _ _ ls hW (lv_sub hl [0, 1, 4, 5, 6, 7, 8, 9] rfl) h
  exact lW1 k1 v1 2147483647 σ _ _ ls hW (lv_sub hl [0, 1, 2, 3, 4, 5, 6, 7] rfl) h
abbrev rm_A_seekFrom : Room := { frames := 7, cells := 0, slots := 0, locals := 169 }
set_option maxHeartbeats 4000000 in
set_option maxRecDepth 100000 in
theorem c_A_seekFrom (l : Launch) (dC : Nat → ClassId) (dI : Nat → Nat → Nat) (ad : Nat → Nat) (kc : Nat → ClassId) (nn : Nat → Nat) (σ : kM) (p0 : Int) (p1 : Int) {P : kM → Prop} (h : wp_A_seekFrom nn σ p0 p1 P) : kMv l y_A_seekFrom ws_A_seekFrom rm_A_seekFrom (dC, dI) vwC (tyC kc) (wC ad kc nn) nsG σ [.ref (ad 2), .int (iI p0), .int (iI p1)] P := by
  intro sz
  refine k_enter (cc := b_A_seekFrom) (maxL := 6) (ret := none) (by decide) rfl (Nat.le_of_ble_eq_true rfl) ?_
  intro p e s m below meth c ls S hr hlocks hsz hA hW hK hN hl
  generalize va_A ((wC ad kc nn) σ) sz = A at hA hW ⊢
  generalize ([.ref (ad 2), .int (iI p0), .int (iI p1)] : List Value).toArray = args at S ⊢
  obtain ⟨hx, hb, hml, hown, hts⟩ := id S
  have hl : lv_has ls 6 [(0, .ref (ad 2)), (1, .int (iI p0)), (2, .int (iI p1))] := hl
  unfold wp_A_seekFrom at h
  refine lv_iconst (v := iI 0) hx hb dA_seekFrom_0 rfl ?_
  refine lv_istore_n (lv' := [(3, .int (iI 0)), (0, .ref (ad 2)), (1, .int (iI p0)), (2, .int (iI p1))]) hx hb dA_seekFrom_1 rfl hl (by decide) rfl (fun ls hl => ?_)
  obtain ⟨Pe1, k1, h, hk1⟩ := h
  have xW1 : ∀ (v2 : Int) (s2 : kM) (H : Heap) (locs : List Loc) (ls : Array Slot), kW (dC, dI) vwC A s.heap (wC ad kc nn s2) H locs → lv_has ls 6 [] → Pe1 v2 s2 → W p l e (headSpec ws_A_seekFrom rm_A_seekFrom).room s m args below meth c H locs 0 0 (MQ below (kQv (dC, dI) vwC (wC ad kc nn) P A) args s 0 0 A) (F0 m 75 ls []) := by
    intro v2 s2 H locs ls hW hl h
    have h := hk1 v2 s2 h
    exact k_vret hx hb hr hlocks hW dA_seekFrom_75 h
  have lW2 : ∀ (ki2 : Nat) (v1 : Int) (s1 : kM) (H : Heap) (locs : List Loc) (ls : Array Slot), kW (dC, dI) vwC A s.heap (wC ad kc nn s1) H locs → lv_has ls 6 [(3, .int (iI v1)), (0, .ref (ad 2)), (1, .int (iI p0)), (2, .int (iI p1))] → lp_A_seekFrom_2 nn p0 p1 Pe1 ki2 v1 s1 → W p l e (headSpec ws_A_seekFrom rm_A_seekFrom).room s m args below meth c H locs 0 0 (MQ below (kQv (dC, dI) vwC (wC ad kc nn) P A) args s 0 0 A) (F0 m 2 ls []) := by
    intro ki2
    induction ki2 with
    | zero => intro v1 s1 H locs ls hW hl h; exact h.elim
    | succ ki2 ih2 =>
      intro v1 s1 H locs ls hW hl h
      have h : lpB_A_seekFrom_2 nn p0 p1 Pe1 (lp_A_seekFrom_2 nn p0 p1 Pe1 ki2) v1 s1 := h
      unfold lpB_A_seekFrom_2 at h
      refine lv_iload_n hx hb dA_seekFrom_2 rfl (lv_at hl 0 rfl) ?_
      refine lv_aload_n hx hb dA_seekFrom_3 rfl (lv_at hl 1 rfl) ?_
      refine k_get (ci := 2) (C := R_A) (T := T_A) (N := 4) hx hb hts (fun w q => gG_in (inG_A w q)) hown hK hW.1 2 rfl rfl 0 (by decide) (hts _ (gG_in mw_74)) rfl dA_seekFrom_4 ?_
      refine kc_vp (As := []) (rest := [.int (iI v1)]) (ci := 1) (q0 := 1) S (c_S_side l dC dI ad kc nn s1 (P := fun r => (s1 1 1) = r) rfl) (cwV 0 hts (gV mw_240 mw_241 mw_242 mw_2 k_S_side) rfl rfl rfl (by decide +kernel) ⟨Nat.le_of_ble_eq_true rfl, Nat.le_of_ble_eq_true rfl⟩) hK hN hW.1 rfl rfl rfl hl.1 rfl (Nat.le_of_ble_eq_true rfl) dA_seekFrom_7 ⟨Nat.zero_le _, Nat.zero_le _⟩ (fun r1 hp => ?_)
      subst hp
      obtain ⟨q1, h⟩ := h
      obtain ⟨q2, h⟩ := h
      obtain ⟨ht, hf⟩ := h
      refine ki_icmp_gt (tgt := 75) hx hb dA_seekFrom_10 (by decide) q1 q2 (fun c1 => ?_) (fun c1 => ?_)
      · have h := ht c1
        exact xW1 v1 s1 _ _ ls hW (lv_sub hl [] rfl) h
      · have h := hf c1
        refine lv_iconst (v := iI 0) hx hb dA_seekFrom_13 rfl ?_
        refine lv_istore (lv' := [(4, .int (iI 0)), (3, .int (iI v1)), (0, .ref (ad 2)), (1, .int (iI p0)), (2, .int (iI p1))]) hx hb dA_seekFrom_14 hl (by decide) rfl (fun ls hl => ?_)
        obtain ⟨Pe2, k2, h, hk2⟩ := h
        have xW2 : ∀ (v4 : Int) (s4 : kM) (H : Heap) (locs : List Loc) (ls : Array Slot), kW (dC, dI) vwC A s.heap (wC ad kc nn s4) H locs → lv_has ls 6 [(3, .int (iI v1)), (0, .ref (ad 2)), (1, .int (iI p0)), (2, .int (iI p1))] → Pe2 v4 s4 → W p l e (headSpec ws_A_seekFrom rm_A_seekFrom).room s m args below meth c H locs 0 0 (MQ below (kQv (dC, dI) vwC (wC ad kc nn) P A) args s 0 0 A) (F0 m 69 ls []) := by
          intro v4 s4 H locs ls hW hl h
          have h := hk2 v4 s4 h
          obtain ⟨v5, ev5⟩ : ∃ z : Int, z = v1 + 1 := ⟨_, rfl⟩
          refine lv_iinc (v := iI v5) (lv' := [(3, .int (iI v5)), (0, .ref (ad 2)), (1, .int (iI p0)), (2, .int (iI p1))]) hx hb dA_seekFrom_69 hl (k := 0) rfl (by rw [ev5, ← iI_add]; rfl) (by decide) rfl (fun ls hl => ?_)
          have h := h v5 ev5
          refine lv_goto (tgt := 2) hx hb dA_seekFrom_72 (by decide) ?_
          exact ih2 v5 s4 _ _ ls hW (lv_sub hl [0, 1, 2, 3] rfl) h
        have lW1 : ∀ (ki1 : Nat) (v3 : Int) (s3 : kM) (H : Heap) (locs : List Loc) (ls : Array Slot), kW (dC, dI) vwC A s.heap (wC ad kc nn s3) H locs → lv_has ls 6 [(4, .int (iI v3)), (3, .int (iI v1)), (0, .ref (ad 2)), (1, .int (iI p0)), (2, .int (iI p1))] → lp_A_seekFrom_16 nn p0 p1 v1 Pe2 ki1 v3 s3 → W p l e (headSpec ws_A_seekFrom rm_A_seekFrom).room s m args below meth c H locs 0 0 (MQ below (kQv (dC, dI) vwC (wC ad kc nn) P A) args s 0 0 A) (F0 m 16 ls []) := by
          intro ki1
          induction ki1 with
          | zero => intro v3 s3 H locs ls hW hl h; exact h.elim
          | succ ki1 ih1 =>
            intro v3 s3 H locs ls hW hl h
            have h : lpB_A_seekFrom_16 nn p0 p1 v1 Pe2 (lp_A_seekFrom_16 nn p0 p1 v1 Pe2 ki1) v3 s3 := h
            unfold lpB_A_seekFrom_16 at h
            refine lv_iload hx hb dA_seekFrom_16 (lv_at hl 0 rfl) ?_
            refine lv_aload_n hx hb dA_seekFrom_18 rfl (lv_at hl 2 rfl) ?_
            refine k_get (ci := 2) (C := R_A) (T := T_A) (N := 4) hx hb hts (fun w q => gG_in (inG_A w q)) hown hK hW.1 2 rfl rfl 0 (by decide) (hts _ (gG_in mw_74)) rfl dA_seekFrom_19 ?_
            refine kc_vp (As := []) (rest := [.int (iI v3)]) (ci := 1) (q0 := 1) S (c_S_side l dC dI ad kc nn s3 (P := fun r => (s3 1 1) = r) rfl) (cwV 0 hts (gV mw_240 mw_241 mw_242 mw_2 k_S_side) rfl rfl rfl (by decide +kernel) ⟨Nat.le_of_ble_eq_true rfl, Nat.le_of_ble_eq_true rfl⟩) hK hN hW.1 rfl rfl rfl hl.1 rfl (Nat.le_of_ble_eq_true rfl) dA_seekFrom_22 ⟨Nat.zero_le _, Nat.zero_le _⟩ (fun r2 hp => ?_)
            subst hp
            obtain ⟨q3, h⟩ := h
            obtain ⟨q4, h⟩ := h
            obtain ⟨ht, hf⟩ := h
            refine ki_icmp_gt (tgt := 69) hx hb dA_seekFrom_25 (by decide) q3 q4 (fun c2 => ?_) (fun c2 => ?_)
            · have h := ht c2
              exact xW2 v3 s3 _ _ ls hW (lv_sub hl [1, 2, 3, 4] rfl) h
            · have h := hf c2
              refine lv_aload_n hx hb dA_seekFrom_28 rfl (lv_at hl 2 rfl) ?_
              refine lv_aload_n hx hb dA_seekFrom_29 rfl (lv_at hl 2 rfl) ?_
              refine k_get (ci := 2) (C := R_A) (T := T_A) (N := 4) hx hb hts (fun w q => gG_in (inG_A w q)) hown hK hW.1 2 rfl rfl 2 (by decide) (hts _ (gG_in mw_76)) rfl dA_seekFrom_30 ?_
              refine lv_iload_n hx hb dA_seekFrom_33 rfl (lv_at hl 3 rfl) ?_
              refine lv_iload_n hx hb dA_seekFrom_34 rfl (lv_at hl 4 rfl) ?_
              refine lv_iload_n hx hb dA_seekFrom_35 rfl (lv_at hl 1 rfl) ?_
              refine lv_iload hx hb dA_seekFrom_36 (lv_at hl 0 rfl) ?_
              obtain ⟨P1, g1, h⟩ := h
              refine kc_vi (As := [.int (iI (s3 2 2)), .int (iI p0), .int (iI p1), .int (iI v1), .int (iI v3)]) (rest := []) (ci := 2) (q0 := 2) S (c_A_roomAbove l dC dI ad kc nn s3 (s3 2 2) p0 p1 v1 v3 g1) (cwV 5 hts (gV mw_289 mw_291 ps_10 mw_4 k_A_roomAbove) rfl rfl rfl (by decide +kernel) ⟨Nat.le_of_ble_eq_true rfl, Nat.le_of_ble_eq_true rfl⟩) hK hN hA hW (fun _ => rfl) rfl rfl rfl hl.1 rfl (Nat.le_of_ble_eq_true rfl) dA_seekFrom_38 ⟨Nat.zero_le _, Nat.zero_le _⟩ (fun r3 s5 H locs hp hW => ?_)
              have h := h r3 s5 hp
              refine lv_istore (lv' := [(5, .int (iI r3)), (4, .int (iI v3)), (3, .int (iI v1)), (0, .ref (ad 2)), (1, .int (iI p0)), (2, .int (iI p1))]) hx hb dA_seekFrom_41 hl (by decide) rfl (fun ls hl => ?_)
              refine lv_iload hx hb dA_seekFrom_43 (lv_at hl 0 rfl) ?_
              refine lv_aload_n hx hb dA_seekFrom_45 rfl (lv_at hl 3 rfl) ?_
              refine k_get (ci := 2) (C := R_A) (T := T_A) (N := 4) hx hb hts (fun w q => gG_in (inG_A w q)) hown hK hW.1 2 rfl rfl 2 (by decide) (hts _ (gG_in mw_76)) rfl dA_seekFrom_46 ?_
              obtain ⟨q5, h⟩ := h
              obtain ⟨q6, h⟩ := h
              obtain ⟨ht, hf⟩ := h
              refine ki_icmp_le (tgt := 63) hx hb dA_seekFrom_49 (by decide) q5 q6 (fun c3 => ?_) (fun c3 => ?_)
              · have h := ht c3
                obtain ⟨v6, ev6⟩ : ∃ z : Int, z = v3 + 1 := ⟨_, rfl⟩
                refine lv_iinc (v := iI v6) (lv' := [(4, .int (iI v6)), (5, .int (iI r3)), (3, .int (iI v1)), (0, .ref (ad 2)), (1, .int (iI p0)), (2, .int (iI p1))]) hx hb dA_seekFrom_63 hl (k := 1) rfl (by rw [ev6, ← iI_add]; rfl) (by decide) rfl (fun ls hl => ?_)
                have h := h v6 ev6
                refine lv_goto (tgt := 16) hx hb dA_seekFrom_66 (by decide) ?_
                exact ih1 v6 s5 _ _ ls hW (lv_sub hl [0, 2, 3, 4, 5] rfl) h
              · have h := hf c3
                refine lv_aload_n hx hb dA_seekFrom_52 rfl (lv_at hl 3 rfl) ?_
                refine lv_iload hx hb dA_seekFrom_53 (lv_at hl 0 rfl) ?_
                refine lv_iload_n hx hb dA_seekFrom_55 rfl (lv_at hl 4 rfl) ?_
                refine lv_iload_n hx hb dA_seekFrom_56 rfl (lv_at hl 5 rfl) ?_
                refine lv_iload_n hx hb dA_seekFrom_57 rfl (lv_at hl 2 rfl) ?_
                refine lv_iload hx hb dA_seekFrom_58 (lv_at hl 1 rfl) ?_
                obtain ⟨P2, g2, h⟩ := h
                refine kc_vv (As := [.int (iI r3), .int (iI p0), .int (iI p1), .int (iI v1), .int (iI v3)]) (rest := []) (ci := 2) (q0 := 2) S (c_A_keep l dC dI ad kc nn s5 r3 p0 p1 v1 v3 g2) (cwV 5 hts (gV mw_236 mw_238 ps_2 mw_4 k_A_keep) rfl rfl rfl (by decide +kernel) ⟨Nat.le_of_ble_eq_true rfl, Nat.le_of_ble_eq_true rfl⟩) hK hN hA hW (fun _ => rfl) rfl rfl rfl hl.1 rfl (Nat.le_of_ble_eq_true rfl) dA_seekFrom_60 ⟨Nat.zero_le _, Nat.zero_le _⟩ (fun s6 H locs hp hW => ?_)
                have h := h s6 hp
                obtain ⟨v7, ev7⟩ : ∃ z : Int, z = v3 + 1 := ⟨_, rfl⟩
                refine lv_iinc (v := iI v7) (lv' := [(4, .int (iI v7)), (5, .int (iI r3)), (3, .int (iI v1)), (0, .ref (ad 2)), (1, .int (iI p0)), (2, .int (iI p1))]) hx hb dA_seekFrom_63 hl (k := 1) rfl (by rw [ev7, ← iI_add]; rfl) (by decide) rfl (fun ls hl => ?_)
                have h := h v7 ev7
                refine lv_goto (tgt := 16) hx hb dA_seekFrom_66 (by decide) ?_
                exact ih1 v7 s6 _ _ ls hW (lv_sub hl [0, 2, 3, 4, 5] rfl) h
        exact lW1 k2 0 s1 _ _ ls hW (lv_sub hl [0, 1, 2, 3, 4] rfl) h
  exact lW2 k1 0 σ _ _ ls hW (lv_sub hl [0, 1, 2, 3] rfl) h
abbrev rm_A_seek : Room := { frames := 8, cells := 0, slots := 0, locals := 194 }
set_option maxHeartbeats 4000000 in
set_option maxRecDepth 100000 in
theorem c_A_seek (l : Launch) (dC : Nat → ClassId) (dI : Nat → Nat → Nat) (ad : Nat → Nat) (kc : Nat → ClassId) (nn : Nat → Nat) (σ : kM) {P : kM → Prop} (h : wp_A_seek nn σ P) : kMv l y_A_seek ws_A_seek rm_A_seek (dC, dI) vwC (tyC kc) (wC ad kc nn) nsG σ [.ref (ad 2)] P := by
  intro sz
  refine k_enter (cc := b_A_seek) (maxL := 3) (ret := none) (by decide) rfl (Nat.le_of_ble_eq_true rfl) ?_
  intro p e s m below meth c ls S hr hlocks hsz hA hW hK hN hl
  generalize va_A ((wC ad kc nn) σ) sz = A at hA hW ⊢
  generalize ([.ref (ad 2)] : List Value).toArray = args at S ⊢
  obtain ⟨hx, hb, hml, hown, hts⟩ := id S
  have hl : lv_has ls 3 [(0, .ref (ad 2))] := hl
  unfold wp_A_seek at h
  refine lv_aload_n hx hb dA_seek_0 rfl (lv_at hl 0 rfl) ?_
  refine lv_iconst (v := iI 0) hx hb dA_seek_1 rfl ?_
  refine lv_iconst (v := iI 0) hx hb dA_seek_2 rfl ?_
  refine lv_iconst (v := iI 0) hx hb dA_seek_3 rfl ?_
  refine lv_iconst (v := iI 0) hx hb dA_seek_4 rfl ?_
  refine lv_iconst (v := iI 0) hx hb dA_seek_5 rfl ?_
  obtain ⟨P1, g1, h⟩ := h
  refine kc_vv (As := [.int (iI 0), .int (iI 0), .int (iI 0), .int (iI 0), .int (iI 0)]) (rest := []) (ci := 2) (q0 := 2) S (c_A_keep l dC dI ad kc nn σ 0 0 0 0 0 g1) (cwV 5 hts (gV mw_236 mw_238 ps_2 mw_4 k_A_keep) rfl rfl rfl (by decide +kernel) ⟨Nat.le_of_ble_eq_true rfl, Nat.le_of_ble_eq_true rfl⟩) hK hN hA hW (fun _ => rfl) rfl rfl rfl hl.1 rfl (Nat.le_of_ble_eq_true rfl) dA_seek_6 ⟨Nat.zero_le _, Nat.zero_le _⟩ (fun s1 H locs hp hW => ?_)
  have h := h s1 hp
  refine lv_iconst (v := iI 0) hx hb dA_seek_9 rfl ?_
  refine lv_istore_n (lv' := [(1, .int (iI 0)), (0, .ref (ad 2))]) hx hb dA_seek_10 rfl hl (by decide) rfl (fun ls hl => ?_)
  obtain ⟨Pe1, k1, h, hk1⟩ := h
  have xW1 : ∀ (v2 : Int) (s3 : kM) (H : Heap) (locs : List Loc) (ls : Array Slot), kW (dC, dI) vwC A s.heap (wC ad kc nn s3) H locs → lv_has ls 3 [] → Pe1 v2 s3 → W p l e (headSpec ws_A_seek rm_A_seek).room s m args below meth c H locs 0 0 (MQ below (kQv (dC, dI) vwC (wC ad kc nn) P A) args s 0 0 A) (F0 m 86 ls []) := by
    intro v2 s3 H locs ls hW hl h
    have h := hk1 v2 s3 h
    exact k_vret hx hb hr hlocks hW dA_seek_86 h
  have lW2 : ∀ (ki2 : Nat) (v1 : Int) (s2 : kM) (H : Heap) (locs : List Loc) (ls : Array Slot), kW (dC, dI) vwC A s.heap (wC ad kc nn s2) H locs → lv_has ls 3 [(1, .int (iI v1)), (0, .ref (ad 2))] → lp_A_seek_11 nn Pe1 ki2 v1 s2 → W p l e (headSpec ws_A_seek rm_A_seek).room s m args below meth c H locs 0 0 (MQ below (kQv (dC, dI) vwC (wC ad kc nn) P A) args s 0 0 A) (F0 m 11 ls []) := by
    intro ki2
    induction ki2 with
    | zero => intro v1 s2 H locs ls hW hl h; exact h.elim
    | succ ki2 ih2 =>
      intro v1 s2 H locs ls hW hl h
      have h : lpB_A_seek_11 nn Pe1 (lp_A_seek_11 nn Pe1 ki2) v1 s2 := h
      unfold lpB_A_seek_11 at h
      refine lv_iload_n hx hb dA_seek_11 rfl (lv_at hl 0 rfl) ?_
      refine lv_aload_n hx hb dA_seek_12 rfl (lv_at hl 1 rfl) ?_
      refine k_get (ci := 2) (C := R_A) (T := T_A) (N := 4) hx hb hts (fun w q => gG_in (inG_A w q)) hown hK hW.1 2 rfl rfl 0 (by decide) (hts _ (gG_in mw_74)) rfl dA_seek_13 ?_
      refine kc_vp (As := []) (rest := [.int (iI v1)]) (ci := 1) (q0 := 1) S (c_S_side l dC dI ad kc nn s2 (P := fun r => (s2 1 1) = r) rfl) (cwV 0 hts (gV mw_240 mw_241 mw_242 mw_2 k_S_side) rfl rfl rfl (by decide +kernel) ⟨Nat.le_of_ble_eq_true rfl, Nat.le_of_ble_eq_true rfl⟩) hK hN hW.1 rfl rfl rfl hl.1 rfl (Nat.le_of_ble_eq_true rfl) dA_seek_16 ⟨Nat.zero_le _, Nat.zero_le _⟩ (fun r1 hp => ?_)
      subst hp
      obtain ⟨q1, h⟩ := h
      obtain ⟨q2, h⟩ := h
      obtain ⟨ht, hf⟩ := h
      refine ki_icmp_gt (tgt := 86) hx hb dA_seek_19 (by decide) q1 q2 (fun c1 => ?_) (fun c1 => ?_)
      · have h := ht c1
        exact xW1 v1 s2 _ _ ls hW (lv_sub hl [] rfl) h
      · have h := hf c1
        refine lv_iconst (v := iI 0) hx hb dA_seek_22 rfl ?_
        refine lv_istore_n (lv' := [(2, .int (iI 0)), (1, .int (iI v1)), (0, .ref (ad 2))]) hx hb dA_seek_23 rfl hl (by decide) rfl (fun ls hl => ?_)
        obtain ⟨Pe2, k2, h, hk2⟩ := h
        have xW2 : ∀ (v4 : Int) (s5 : kM) (H : Heap) (locs : List Loc) (ls : Array Slot), kW (dC, dI) vwC A s.heap (wC ad kc nn s5) H locs → lv_has ls 3 [(1, .int (iI v1)), (0, .ref (ad 2))] → Pe2 v4 s5 → W p l e (headSpec ws_A_seek rm_A_seek).room s m args below meth c H locs 0 0 (MQ below (kQv (dC, dI) vwC (wC ad kc nn) P A) args s 0 0 A) (F0 m 80 ls []) := by
          intro v4 s5 H locs ls hW hl h
          have h := hk2 v4 s5 h
          obtain ⟨v5, ev5⟩ : ∃ z : Int, z = v1 + 1 := ⟨_, rfl⟩
          refine lv_iinc (v := iI v5) (lv' := [(1, .int (iI v5)), (0, .ref (ad 2))]) hx hb dA_seek_80 hl (k := 0) rfl (by rw [ev5, ← iI_add]; rfl) (by decide) rfl (fun ls hl => ?_)
          have h := h v5 ev5
          refine lv_goto (tgt := 11) hx hb dA_seek_83 (by decide) ?_
          exact ih2 v5 s5 _ _ ls hW (lv_sub hl [0, 1] rfl) h
        have lW1 : ∀ (ki1 : Nat) (v3 : Int) (s4 : kM) (H : Heap) (locs : List Loc) (ls : Array Slot), kW (dC, dI) vwC A s.heap (wC ad kc nn s4) H locs → lv_has ls 3 [(2, .int (iI v3)), (1, .int (iI v1)), (0, .ref (ad 2))] → lp_A_seek_24 nn v1 Pe2 ki1 v3 s4 → W p l e (headSpec ws_A_seek rm_A_seek).room s m args below meth c H locs 0 0 (MQ below (kQv (dC, dI) vwC (wC ad kc nn) P A) args s 0 0 A) (F0 m 24 ls []) := by
          intro ki1
          induction ki1 with
          | zero => intro v3 s4 H locs ls hW hl h; exact h.elim
          | succ ki1 ih1 =>
            intro v3 s4 H locs ls hW hl h
            have h : lpB_A_seek_24 nn v1 Pe2 (lp_A_seek_24 nn v1 Pe2 ki1) v3 s4 := h
            unfold lpB_A_seek_24 at h
            refine lv_iload_n hx hb dA_seek_24 rfl (lv_at hl 0 rfl) ?_
            refine lv_aload_n hx hb dA_seek_25 rfl (lv_at hl 2 rfl) ?_
            refine k_get (ci := 2) (C := R_A) (T := T_A) (N := 4) hx hb hts (fun w q => gG_in (inG_A w q)) hown hK hW.1 2 rfl rfl 0 (by decide) (hts _ (gG_in mw_74)) rfl dA_seek_26 ?_
            refine kc_vp (As := []) (rest := [.int (iI v3)]) (ci := 1) (q0 := 1) S (c_S_side l dC dI ad kc nn s4 (P := fun r => (s4 1 1) = r) rfl) (cwV 0 hts (gV mw_240 mw_241 mw_242 mw_2 k_S_side) rfl rfl rfl (by decide +kernel) ⟨Nat.le_of_ble_eq_true rfl, Nat.le_of_ble_eq_true rfl⟩) hK hN hW.1 rfl rfl rfl hl.1 rfl (Nat.le_of_ble_eq_true rfl) dA_seek_29 ⟨Nat.zero_le _, Nat.zero_le _⟩ (fun r2 hp => ?_)
            subst hp
            obtain ⟨q3, h⟩ := h
            obtain ⟨q4, h⟩ := h
            obtain ⟨ht, hf⟩ := h
            refine ki_icmp_gt (tgt := 80) hx hb dA_seek_32 (by decide) q3 q4 (fun c2 => ?_) (fun c2 => ?_)
            · have h := ht c2
              exact xW2 v3 s4 _ _ ls hW (lv_sub hl [1, 2] rfl) h
            · have h := hf c2
              refine lv_aload_n hx hb dA_seek_35 rfl (lv_at hl 2 rfl) ?_
              refine k_get (ci := 2) (C := R_A) (T := T_A) (N := 4) hx hb hts (fun w q => gG_in (inG_A w q)) hown hK hW.1 2 rfl rfl 0 (by decide) (hts _ (gG_in mw_74)) rfl dA_seek_36 ?_
              refine lv_iconst (v := iI 0) hx hb dA_seek_39 rfl ?_
              refine lv_iload_n hx hb dA_seek_40 rfl (lv_at hl 1 rfl) ?_
              refine lv_aload_n hx hb dA_seek_41 rfl (lv_at hl 2 rfl) ?_
              refine k_get (ci := 2) (C := R_A) (T := T_A) (N := 4) hx hb hts (fun w q => gG_in (inG_A w q)) hown hK hW.1 2 rfl rfl 0 (by decide) (hts _ (gG_in mw_74)) rfl dA_seek_42 ?_
              refine kc_vp (As := []) (rest := [.int (iI v1), .int (iI 0), .ref (ad 1)]) (ci := 1) (q0 := 1) S (c_S_parts l dC dI ad kc nn s4 (P := fun r => (s4 1 2) = r) rfl) (cwV 0 hts (gV mw_244 mw_245 mw_246 mw_2 k_S_parts) rfl rfl rfl (by decide +kernel) ⟨Nat.le_of_ble_eq_true rfl, Nat.le_of_ble_eq_true rfl⟩) hK hN hW.1 rfl rfl rfl hl.1 rfl (Nat.le_of_ble_eq_true rfl) dA_seek_45 ⟨Nat.zero_le _, Nat.zero_le _⟩ (fun r3 hp => ?_)
              subst hp
              refine ki_mul hx hb dA_seek_48 ?_
              refine lv_iload_n hx hb dA_seek_49 rfl (lv_at hl 0 rfl) ?_
              refine lv_aload_n hx hb dA_seek_50 rfl (lv_at hl 2 rfl) ?_
              refine k_get (ci := 2) (C := R_A) (T := T_A) (N := 4) hx hb hts (fun w q => gG_in (inG_A w q)) hown hK hW.1 2 rfl rfl 0 (by decide) (hts _ (gG_in mw_74)) rfl dA_seek_51 ?_
              refine kc_vp (As := []) (rest := [.int (iI v3), .int (iI (v1 * (s4 1 2))), .int (iI 0), .ref (ad 1)]) (ci := 1) (q0 := 1) S (c_S_parts l dC dI ad kc nn s4 (P := fun r => (s4 1 2) = r) rfl) (cwV 0 hts (gV mw_244 mw_245 mw_246 mw_2 k_S_parts) rfl rfl rfl (by decide +kernel) ⟨Nat.le_of_ble_eq_true rfl, Nat.le_of_ble_eq_true rfl⟩) hK hN hW.1 rfl rfl rfl hl.1 rfl (Nat.le_of_ble_eq_true rfl) dA_seek_54 ⟨Nat.zero_le _, Nat.zero_le _⟩ (fun r4 hp => ?_)
              subst hp
              refine ki_mul hx hb dA_seek_57 ?_
              obtain ⟨P2, g2, h⟩ := h
              refine kc_vi (As := [.int (iI 0), .int (iI (v1 * (s4 1 2))), .int (iI (v3 * (s4 1 2)))]) (rest := []) (ci := 1) (q0 := 1) S (c_S_nearestAt l dC dI ad kc nn s4 0 (v1 * (s4 1 2)) (v3 * (s4 1 2)) g2) (cwV 3 hts (gV mw_248 mw_249 mw_250 mw_2 k_S_nearestAt) rfl rfl rfl (by decide +kernel) ⟨Nat.le_of_ble_eq_true rfl, Nat.le_of_ble_eq_true rfl⟩) hK hN hA hW (fun _ => rfl) rfl rfl rfl hl.1 rfl (Nat.le_of_ble_eq_true rfl) dA_seek_58 ⟨Nat.zero_le _, Nat.zero_le _⟩ (fun r5 s6 H locs hp hW => ?_)
              have h := h r5 s6 hp
              refine lv_aload_n hx hb dA_seek_61 rfl (lv_at hl 2 rfl) ?_
              refine k_get (ci := 2) (C := R_A) (T := T_A) (N := 4) hx hb hts (fun w q => gG_in (inG_A w q)) hown hK hW.1 2 rfl rfl 2 (by decide) (hts _ (gG_in mw_76)) rfl dA_seek_62 ?_
              obtain ⟨q5, h⟩ := h
              obtain ⟨q6, h⟩ := h
              obtain ⟨ht, hf⟩ := h
              refine ki_icmp_le (tgt := 74) hx hb dA_seek_65 (by decide) q5 q6 (fun c3 => ?_) (fun c3 => ?_)
              · have h := ht c3
                obtain ⟨v6, ev6⟩ : ∃ z : Int, z = v3 + 1 := ⟨_, rfl⟩
                refine lv_iinc (v := iI v6) (lv' := [(2, .int (iI v6)), (1, .int (iI v1)), (0, .ref (ad 2))]) hx hb dA_seek_74 hl (k := 0) rfl (by rw [ev6, ← iI_add]; rfl) (by decide) rfl (fun ls hl => ?_)
                have h := h v6 ev6
                refine lv_goto (tgt := 24) hx hb dA_seek_77 (by decide) ?_
                exact ih1 v6 s6 _ _ ls hW (lv_sub hl [0, 1, 2] rfl) h
              · have h := hf c3
                refine lv_aload_n hx hb dA_seek_68 rfl (lv_at hl 2 rfl) ?_
                refine lv_iload_n hx hb dA_seek_69 rfl (lv_at hl 1 rfl) ?_
                refine lv_iload_n hx hb dA_seek_70 rfl (lv_at hl 0 rfl) ?_
                obtain ⟨P3, g3, h⟩ := h
                refine kc_vv (As := [.int (iI v1), .int (iI v3)]) (rest := []) (ci := 2) (q0 := 2) S (c_A_seekFrom l dC dI ad kc nn s6 v1 v3 g3) (cwV 2 hts (gV mw_285 mw_287 ps_9 mw_4 k_A_seekFrom) rfl rfl rfl (by decide +kernel) ⟨Nat.le_of_ble_eq_true rfl, Nat.le_of_ble_eq_true rfl⟩) hK hN hA hW (fun _ => rfl) rfl rfl rfl hl.1 rfl (Nat.le_of_ble_eq_true rfl) dA_seek_71 ⟨Nat.zero_le _, Nat.zero_le _⟩ (fun s7 H locs hp hW => ?_)
                have h := h s7 hp
                obtain ⟨v7, ev7⟩ : ∃ z : Int, z = v3 + 1 := ⟨_, rfl⟩
                refine lv_iinc (v := iI v7) (lv' := [(2, .int (iI v7)), (1, .int (iI v1)), (0, .ref (ad 2))]) hx hb dA_seek_74 hl (k := 0) rfl (by rw [ev7, ← iI_add]; rfl) (by decide) rfl (fun ls hl => ?_)
                have h := h v7 ev7
                refine lv_goto (tgt := 24) hx hb dA_seek_77 (by decide) ?_
                exact ih1 v7 s7 _ _ ls hW (lv_sub hl [0, 1, 2] rfl) h
        exact lW1 k2 0 s2 _ _ ls hW (lv_sub hl [0, 1, 2] rfl) h
  exact lW2 k1 0 s1 _ _ ls hW (lv_sub hl [0, 1] rfl) h
abbrev rm_A_seekIfStale : Room := { frames := 9, cells := 0, slots := 0, locals := 216 }
set_option maxHeartbeats 4000000 in
set_option maxRecDepth 100000 in
theorem c_A_seekIfStale (l : Launch) (dC : Nat → ClassId) (dI : Nat → Nat → Nat) (ad : Nat → Nat) (kc : Nat → ClassId) (nn : Nat → Nat) (σ : kM) {P : kM → Prop} (h : wp_A_seekIfStale nn σ P) : kMv l y_A_seekIfStale ws_A_seekIfStale rm_A_seekIfStale (dC, dI) vwC (tyC kc) (wC ad kc nn) nsG σ [.ref (ad 2)] P := by
  intro sz
  refine k_enter (cc := b_A_seekIfStale) (maxL := 1) (ret := none) (by decide) rfl (Nat.le_of_ble_eq_true rfl) ?_
  intro p e s m below meth c ls S hr hlocks hsz hA hW hK hN hl
  generalize va_A ((wC ad kc nn) σ) sz = A at hA hW ⊢
  generalize ([.ref (ad 2)] : List Value).toArray = args at S ⊢
  obtain ⟨hx, hb, hml, hown, hts⟩ := id S
  have hl : lv_has ls 1 [(0, .ref (ad 2))] := hl
  unfold wp_A_seekIfStale at h
  refine lv_aload_n hx hb dA_seekIfStale_0 rfl (lv_at hl 0 rfl) ?_
  refine k_get (ci := 2) (C := R_A) (T := T_A) (N := 4) hx hb hts (fun w q => gG_in (inG_A w q)) hown hK hW.1 2 rfl rfl 3 (by decide) (hts _ (gG_in mw_77)) rfl dA_seekIfStale_1 ?_
  obtain ⟨q1, h⟩ := h
  obtain ⟨ht, hf⟩ := h
  refine ki_if_eq (tgt := 16) hx hb dA_seekIfStale_4 (by decide) q1 (fun c1 => ?_) (fun c1 => ?_)
  · have h := ht c1
    exact k_vret hx hb hr hlocks hW dA_seekIfStale_16 h
  · have h := hf c1
    refine lv_aload_n hx hb dA_seekIfStale_7 rfl (lv_at hl 0 rfl) ?_
    obtain ⟨P1, g1, h⟩ := h
    refine kc_vv (As := []) (rest := []) (ci := 2) (q0 := 2) S (c_A_seek l dC dI ad kc nn σ g1) (cwV 0 hts (gV mw_232 mw_234 ps_1 mw_4 k_A_seek) rfl rfl rfl (by decide +kernel) ⟨Nat.le_of_ble_eq_true rfl, Nat.le_of_ble_eq_true rfl⟩) hK hN hA hW (fun _ => rfl) rfl rfl rfl hl.1 rfl (Nat.le_of_ble_eq_true rfl) dA_seekIfStale_8 ⟨Nat.zero_le _, Nat.zero_le _⟩ (fun s1 H locs hp hW => ?_)
    have h := h s1 hp
    refine lv_aload_n hx hb dA_seekIfStale_11 rfl (lv_at hl 0 rfl) ?_
    refine lv_iconst (v := iI 0) hx hb dA_seekIfStale_12 rfl ?_
    obtain ⟨s2, es2⟩ : ∃ z : kM, z = va_up s1 2 (va_up (s1 2) 3 0) := ⟨_, rfl⟩
    refine k_put (ty := .boolean) (ws' := wC ad kc nn s2) (ci := 2) (C := R_A) (T := T_A) (N := 4) hx hb hts (fun w q => gG_in (inG_A w q)) ty_A tk_A nm_A hown hK hW 2 rfl rfl 3 (by decide) (hts _ (gG_in mw_77)) rfl (by decide +kernel) (narZ (by decide)) (fitZ (by decide)) (Nat.le_of_ble_eq_true rfl) (by rw [es2]; exact wC_p2_3 ..) dA_seekIfStale_13 (fun H locs hW => ?_)
    have h := h s2 es2
    exact k_vret hx hb hr hlocks hW dA_seekIfStale_16 h
abbrev rm_A_greatestRoom : Room := { frames := 10, cells := 0, slots := 0, locals := 236 }
set_option maxHeartbeats 4000000 in
set_option maxRecDepth 100000 in
theorem c_A_greatestRoom (l : Launch) (dC : Nat → ClassId) (dI : Nat → Nat → Nat) (ad : Nat → Nat) (kc : Nat → ClassId) (nn : Nat → Nat) (σ : kM) {P : Int → kM → Prop} (h : wp_A_greatestRoom nn σ P) : kMi l y_A_greatestRoom ws_A_greatestRoom rm_A_greatestRoom (dC, dI) vwC (tyC kc) (wC ad kc nn) nsG σ [.ref (ad 2)] P := by
  intro sz
  refine k_enter (cc := b_A_greatestRoom) (maxL := 1) (ret := (some .int)) (by decide) rfl (Nat.le_of_ble_eq_true rfl) ?_
  intro p e s m below meth c ls S hr hlocks hsz hA hW hK hN hl
  generalize va_A ((wC ad kc nn) σ) sz = A at hA hW ⊢
  generalize ([.ref (ad 2)] : List Value).toArray = args at S ⊢
  obtain ⟨hx, hb, hml, hown, hts⟩ := id S
  have hl : lv_has ls 1 [(0, .ref (ad 2))] := hl
  unfold wp_A_greatestRoom at h
  refine lv_aload_n hx hb dA_greatestRoom_0 rfl (lv_at hl 0 rfl) ?_
  obtain ⟨P1, g1, h⟩ := h
  refine kc_vv (As := []) (rest := []) (ci := 2) (q0 := 2) S (c_A_seekIfStale l dC dI ad kc nn σ g1) (cwV 0 hts (gV mw_228 mw_230 ps_0 mw_4 k_A_seekIfStale) rfl rfl rfl (by decide +kernel) ⟨Nat.le_of_ble_eq_true rfl, Nat.le_of_ble_eq_true rfl⟩) hK hN hA hW (fun _ => rfl) rfl rfl rfl hl.1 rfl (Nat.le_of_ble_eq_true rfl) dA_greatestRoom_1 ⟨Nat.zero_le _, Nat.zero_le _⟩ (fun s1 H locs hp hW => ?_)
  have h := h s1 hp
  refine lv_aload_n hx hb dA_greatestRoom_4 rfl (lv_at hl 0 rfl) ?_
  refine k_get (ci := 2) (C := R_A) (T := T_A) (N := 4) hx hb hts (fun w q => gG_in (inG_A w q)) hown hK hW.1 2 rfl rfl 2 (by decide) (hts _ (gG_in mw_76)) rfl dA_greatestRoom_5 ?_
  exact k_iret hx hb hr hlocks hW dA_greatestRoom_8 h
abbrev rm_P_room : Room := { frames := 11, cells := 0, slots := 0, locals := 256 }
set_option maxHeartbeats 4000000 in
set_option maxRecDepth 100000 in
theorem c_P_room (l : Launch) (dC : Nat → ClassId) (dI : Nat → Nat → Nat) (ad : Nat → Nat) (kc : Nat → ClassId) (nn : Nat → Nat) (σ : kM) {P : Int → kM → Prop} (h : wp_P_room nn σ P) : kMi l y_P_room ws_P_room rm_P_room (dC, dI) vwC (tyC kc) (wC ad kc nn) nsG σ [.ref (ad 0)] P := by
  intro sz
  refine k_enter (cc := b_P_room) (maxL := 1) (ret := (some .int)) (by decide) rfl (Nat.le_of_ble_eq_true rfl) ?_
  intro p e s m below meth c ls S hr hlocks hsz hA hW hK hN hl
  generalize va_A ((wC ad kc nn) σ) sz = A at hA hW ⊢
  generalize ([.ref (ad 0)] : List Value).toArray = args at S ⊢
  obtain ⟨hx, hb, hml, hown, hts⟩ := id S
  have hl : lv_has ls 1 [(0, .ref (ad 0))] := hl
  unfold wp_P_room at h
  refine lv_aload_n hx hb dP_room_0 rfl (lv_at hl 0 rfl) ?_
  refine k_get (ci := 0) (C := R_P) (T := T_P) (N := 7) hx hb hts (fun w q => gG_in (inG_P w q)) hown hK hW.1 0 rfl rfl 1 (by decide) (hts _ (gG_in mw_199)) rfl dP_room_1 ?_
  obtain ⟨P1, g1, h⟩ := h
  refine kc_vi (As := []) (rest := []) (ci := 2) (q0 := 2) S (c_A_greatestRoom l dC dI ad kc nn σ g1) (cwV 0 hts (gV mw_224 mw_225 mw_226 mw_4 k_A_greatestRoom) rfl rfl rfl (by decide +kernel) ⟨Nat.le_of_ble_eq_true rfl, Nat.le_of_ble_eq_true rfl⟩) hK hN hA hW (fun _ => rfl) rfl rfl rfl hl.1 rfl (Nat.le_of_ble_eq_true rfl) dP_room_4 ⟨Nat.zero_le _, Nat.zero_le _⟩ (fun r1 s1 H locs hp hW => ?_)
  have h := h r1 s1 hp
  exact k_iret hx hb hr hlocks hW dP_room_7 h
abbrev rm_A_number : Room := { frames := 10, cells := 0, slots := 0, locals := 236 }
set_option maxHeartbeats 4000000 in
set_option maxRecDepth 100000 in
theorem c_A_number (l : Launch) (dC : Nat → ClassId) (dI : Nat → Nat → Nat) (ad : Nat → Nat) (kc : Nat → ClassId) (nn : Nat → Nat) (σ : kM) (p0 : Int) {P : Int → kM → Prop} (h : wp_A_number nn σ p0 P) : kMi l y_A_number ws_A_number rm_A_number (dC, dI) vwC (tyC kc) (wC ad kc nn) nsG σ [.ref (ad 2), .int (iI p0)] P := by
  intro sz
  refine k_enter (cc := b_A_number) (maxL := 2) (ret := (some .int)) (by decide) rfl (Nat.le_of_ble_eq_true rfl) ?_
  intro p e s m below meth c ls S hr hlocks hsz hA hW hK hN hl
  generalize va_A ((wC ad kc nn) σ) sz = A at hA hW ⊢
  generalize ([.ref (ad 2), .int (iI p0)] : List Value).toArray = args at S ⊢
  obtain ⟨hx, hb, hml, hown, hts⟩ := id S
  have hl : lv_has ls 2 [(0, .ref (ad 2)), (1, .int (iI p0))] := hl
  unfold wp_A_number at h
  refine lv_aload_n hx hb dA_number_0 rfl (lv_at hl 0 rfl) ?_
  obtain ⟨P1, g1, h⟩ := h
  refine kc_vv (As := []) (rest := []) (ci := 2) (q0 := 2) S (c_A_seekIfStale l dC dI ad kc nn σ g1) (cwV 0 hts (gV mw_228 mw_230 ps_0 mw_4 k_A_seekIfStale) rfl rfl rfl (by decide +kernel) ⟨Nat.le_of_ble_eq_true rfl, Nat.le_of_ble_eq_true rfl⟩) hK hN hA hW (fun _ => rfl) rfl rfl rfl hl.1 rfl (Nat.le_of_ble_eq_true rfl) dA_number_1 ⟨Nat.zero_le _, Nat.zero_le _⟩ (fun s1 H locs hp hW => ?_)
  have h := h s1 hp
  refine lv_aload_n hx hb dA_number_4 rfl (lv_at hl 0 rfl) ?_
  refine k_get (ci := 2) (C := R_A) (T := T_A) (N := 4) hx hb hts (fun w q => gG_in (inG_A w q)) hown hK hW.1 2 rfl rfl 1 (by decide) (hts _ (gG_in mw_75)) rfl dA_number_5 ?_
  refine lv_iload_n hx hb dA_number_8 rfl (lv_at hl 1 rfl) ?_
  obtain ⟨q1, h⟩ := h
  refine k_iald hx hb hK hW.1 12 4 (s1 12) rfl rfl q1 dA_number_9 ?_
  exact k_iret hx hb hr hlocks hW dA_number_10 h
abbrev rm_P_axis : Room := { frames := 11, cells := 0, slots := 0, locals := 257 }
set_option maxHeartbeats 4000000 in
set_option maxRecDepth 100000 in
theorem c_P_axis (l : Launch) (dC : Nat → ClassId) (dI : Nat → Nat → Nat) (ad : Nat → Nat) (kc : Nat → ClassId) (nn : Nat → Nat) (σ : kM) (p0 : Int) {P : Int → kM → Prop} (h : wp_P_axis nn σ p0 P (fun _ _ => False)) : kMi l y_P_axis ws_P_axis rm_P_axis (dC, dI) vwC (tyC kc) (wC ad kc nn) nsG σ [.ref (ad 0), .int (iI p0)] P := by
  intro sz
  refine k_enter (cc := b_P_axis) (maxL := 2) (ret := (some .int)) (by decide) rfl (Nat.le_of_ble_eq_true rfl) ?_
  intro p e s m below meth c ls S hr hlocks hsz hA hW hK hN hl
  generalize va_A ((wC ad kc nn) σ) sz = A at hA hW ⊢
  generalize ([.ref (ad 0), .int (iI p0)] : List Value).toArray = args at S ⊢
  obtain ⟨hx, hb, hml, hown, hts⟩ := id S
  have hl : lv_has ls 2 [(0, .ref (ad 0)), (1, .int (iI p0))] := hl
  unfold wp_P_axis at h
  refine lv_iload_n hx hb dP_axis_0 rfl (lv_at hl 1 rfl) ?_
  refine lv_iconst (v := iI 0) hx hb dP_axis_1 rfl ?_
  refine lv_iconst (v := iI 3) hx hb dP_axis_2 rfl ?_
  obtain ⟨P1, g1, h⟩ := h
  refine kc_sp (As := [.int (iI p0), .int (iI 0), .int (iI 3)]) (rest := []) S (c_P_isWithin l dC dI (tyC kc) (wC ad kc nn) nn σ p0 0 3 g1) (cwS 3 hts (gS mw_417 mw_270 mw_1 k_P_isWithin) rfl rfl rfl (by decide +kernel) ⟨Nat.le_of_ble_eq_true rfl, Nat.le_of_ble_eq_true rfl⟩) hK hN hW.1 rfl hl.1 rfl (Nat.le_of_ble_eq_true rfl) dP_axis_3 ⟨Nat.zero_le _, Nat.zero_le _⟩ (fun r1 hp => ?_)
  have h := h r1 hp
  obtain ⟨q1, h⟩ := h
  obtain ⟨ht, hf⟩ := h
  refine ki_if_ne (tgt := 19) hx hb dP_axis_6 (by decide) q1 (fun c1 => ?_) (fun c1 => ?_)
  · have h := ht c1
    refine lv_aload_n hx hb dP_axis_19 rfl (lv_at hl 0 rfl) ?_
    refine k_get (ci := 0) (C := R_P) (T := T_P) (N := 7) hx hb hts (fun w q => gG_in (inG_P w q)) hown hK hW.1 0 rfl rfl 1 (by decide) (hts _ (gG_in mw_199)) rfl dP_axis_20 ?_
    refine lv_iload_n hx hb dP_axis_23 rfl (lv_at hl 1 rfl) ?_
    obtain ⟨P2, g2, h⟩ := h
    refine kc_vi (As := [.int (iI p0)]) (rest := []) (ci := 2) (q0 := 2) S (c_A_number l dC dI ad kc nn σ p0 g2) (cwV 1 hts (gV mw_419 mw_420 mw_421 mw_4 k_A_number) rfl rfl rfl (by decide +kernel) ⟨Nat.le_of_ble_eq_true rfl, Nat.le_of_ble_eq_true rfl⟩) hK hN hA hW (fun _ => rfl) rfl rfl rfl hl.1 rfl (Nat.le_of_ble_eq_true rfl) dP_axis_24 ⟨Nat.zero_le _, Nat.zero_le _⟩ (fun r2 s1 H locs hp hW => ?_)
    have h := h r2 s1 hp
    exact k_iret hx hb hr hlocks hW dP_axis_27 h
  · have h := hf c1
    exact False.elim h
abbrev rm_A_rootOf : Room := { frames := 0, cells := 0, slots := 0, locals := 0 }
set_option maxHeartbeats 4000000 in
set_option maxRecDepth 100000 in
theorem c_A_rootOf (l : Launch) (dC : Nat → ClassId) (dI : Nat → Nat → Nat) (tys : List (ClassId × FieldType)) (w : kM → va_W) (nn : Nat → Nat) (σ : kM) (p0 : Int) {P : Int → Prop} (h : wp_A_rootOf nn σ p0 P) : kMp l y_A_rootOf ws_A_rootOf rm_A_rootOf (dC, dI) vwC tys w nsG σ [.int (iI p0)] P := by
  refine k_enterP (cc := b_A_rootOf) (maxL := 4) (ret := (some .int)) (by decide) rfl (Nat.le_of_ble_eq_true rfl) ?_
  intro p e s m below meth c ls S hr hlocks hP hK hN hl
  generalize ([.int (iI p0)] : List Value).toArray = args at S ⊢
  obtain ⟨hx, hb, hml, hown, hts⟩ := id S
  have hl : lv_has ls 4 [(0, .int (iI p0))] := hl
  unfold wp_A_rootOf at h
  refine lv_iconst (v := iI 0) hx hb dA_rootOf_0 rfl ?_
  refine lv_istore_n (lv' := [(1, .int (iI 0)), (0, .int (iI p0))]) hx hb dA_rootOf_1 rfl hl (by decide) rfl (fun ls hl => ?_)
  refine lv_sipush (v := iI 1024) hx hb dA_rootOf_2 (by decide) ?_
  refine lv_istore_n (lv' := [(2, .int (iI 1024)), (1, .int (iI 0)), (0, .int (iI p0))]) hx hb dA_rootOf_5 rfl hl (by decide) rfl (fun ls hl => ?_)
  obtain ⟨Pe1, k1, h, hk1⟩ := h
  have xW1 : ∀ (v3 : Int) (v4 : Int) (ls : Array Slot), lv_has ls 4 [(1, .int (iI v4))] → Pe1 v3 v4 → W p l e (headSpec ws_A_rootOf rm_A_rootOf).room s m args below meth c s.heap [] 0 0 (MQ below (kQp P) args s 0 0 (fun _ => False)) (F0 m 30 ls []) := by
    intro v3 v4 ls hl h
    have h := hk1 v3 v4 h
    refine lv_iload_n hx hb dA_rootOf_30 rfl (lv_at hl 0 rfl) ?_
    exact k_iretP hx hb hr hlocks dA_rootOf_31 h
  have lW1 : ∀ (ki1 : Nat) (v1 : Int) (v2 : Int) (ls : Array Slot), lv_has ls 4 [(2, .int (iI v1)), (1, .int (iI v2)), (0, .int (iI p0))] → lp_A_rootOf_6 nn p0 Pe1 ki1 v1 v2 → W p l e (headSpec ws_A_rootOf rm_A_rootOf).room s m args below meth c s.heap [] 0 0 (MQ below (kQp P) args s 0 0 (fun _ => False)) (F0 m 6 ls []) := by
    intro ki1
    induction ki1 with
    | zero => intro v1 v2 ls hl h; exact h.elim
    | succ ki1 ih1 =>
      intro v1 v2 ls hl h
      have h : lpB_A_rootOf_6 nn p0 Pe1 (lp_A_rootOf_6 nn p0 Pe1 ki1) v1 v2 := h
      unfold lpB_A_rootOf_6 at h
      refine lv_iload_n hx hb dA_rootOf_6 rfl (lv_at hl 0 rfl) ?_
      obtain ⟨q1, h⟩ := h
      obtain ⟨ht, hf⟩ := h
      refine ki_if_le (tgt := 30) hx hb dA_rootOf_7 (by decide) q1 (fun c1 => ?_) (fun c1 => ?_)
      · have h := ht c1
        exact xW1 v1 v2 ls (lv_sub hl [1] rfl) h
      · have h := hf c1
        refine lv_iload_n hx hb dA_rootOf_10 rfl (lv_at hl 1 rfl) ?_
        refine lv_iload_n hx hb dA_rootOf_11 rfl (lv_at hl 0 rfl) ?_
        refine ki_add hx hb dA_rootOf_12 ?_
        refine ki_nm (fun v5 ev5 => ?_)
        have h := h v5 ev5
        refine lv_istore_n (lv' := [(3, .int (iI v5)), (2, .int (iI v1)), (1, .int (iI v2)), (0, .int (iI p0))]) hx hb dA_rootOf_13 rfl hl (by decide) rfl (fun ls hl => ?_)
        refine lv_iload_n hx hb dA_rootOf_14 rfl (lv_at hl 0 rfl) ?_
        refine lv_iload_n hx hb dA_rootOf_15 rfl (lv_at hl 0 rfl) ?_
        refine ki_mul hx hb dA_rootOf_16 ?_
        refine lv_iload_n hx hb dA_rootOf_17 rfl (lv_at hl 3 rfl) ?_
        obtain ⟨q2, h⟩ := h
        obtain ⟨q3, h⟩ := h
        obtain ⟨ht, hf⟩ := h
        refine ki_icmp_gt (tgt := 23) hx hb dA_rootOf_18 (by decide) q2 q3 (fun c2 => ?_) (fun c2 => ?_)
        · have h := ht c2
          refine lv_iload_n hx hb dA_rootOf_23 rfl (lv_at hl 1 rfl) ?_
          refine lv_iconst (v := iI 1) hx hb dA_rootOf_24 rfl ?_
          refine ki_shr hx hb dA_rootOf_25 ?_
          refine ki_nm (fun v6 ev6 => ?_)
          have h := h v6 ev6
          refine lv_istore_n (lv' := [(2, .int (iI v6)), (3, .int (iI v5)), (1, .int (iI v2)), (0, .int (iI p0))]) hx hb dA_rootOf_26 rfl hl (by decide) rfl (fun ls hl => ?_)
          refine lv_goto (tgt := 6) hx hb dA_rootOf_27 (by decide) ?_
          exact ih1 v6 v2 ls (lv_sub hl [0, 2, 3] rfl) h
        · have h := hf c2
          refine lv_iload_n hx hb dA_rootOf_21 rfl (lv_at hl 0 rfl) ?_
          refine lv_istore_n (lv' := [(1, .int (iI v5)), (3, .int (iI v5)), (2, .int (iI v1)), (0, .int (iI p0))]) hx hb dA_rootOf_22 rfl hl (by decide) rfl (fun ls hl => ?_)
          refine lv_iload_n hx hb dA_rootOf_23 rfl (lv_at hl 2 rfl) ?_
          refine lv_iconst (v := iI 1) hx hb dA_rootOf_24 rfl ?_
          refine ki_shr hx hb dA_rootOf_25 ?_
          refine ki_nm (fun v7 ev7 => ?_)
          have h := h v7 ev7
          refine lv_istore_n (lv' := [(2, .int (iI v7)), (1, .int (iI v5)), (3, .int (iI v5)), (0, .int (iI p0))]) hx hb dA_rootOf_26 rfl hl (by decide) rfl (fun ls hl => ?_)
          refine lv_goto (tgt := 6) hx hb dA_rootOf_27 (by decide) ?_
          exact ih1 v7 v5 ls (lv_sub hl [0, 1, 3] rfl) h
  exact lW1 k1 1024 0 ls (lv_sub hl [0, 1, 2] rfl) h
abbrev rm_A_greatestRadius : Room := { frames := 10, cells := 0, slots := 0, locals := 236 }
set_option maxHeartbeats 4000000 in
set_option maxRecDepth 100000 in
theorem c_A_greatestRadius (l : Launch) (dC : Nat → ClassId) (dI : Nat → Nat → Nat) (ad : Nat → Nat) (kc : Nat → ClassId) (nn : Nat → Nat) (σ : kM) {P : Int → kM → Prop} (h : wp_A_greatestRadius nn σ P) : kMi l y_A_greatestRadius ws_A_greatestRadius rm_A_greatestRadius (dC, dI) vwC (tyC kc) (wC ad kc nn) nsG σ [.ref (ad 2)] P := by
  intro sz
  refine k_enter (cc := b_A_greatestRadius) (maxL := 1) (ret := (some .int)) (by decide) rfl (Nat.le_of_ble_eq_true rfl) ?_
  intro p e s m below meth c ls S hr hlocks hsz hA hW hK hN hl
  generalize va_A ((wC ad kc nn) σ) sz = A at hA hW ⊢
  generalize ([.ref (ad 2)] : List Value).toArray = args at S ⊢
  obtain ⟨hx, hb, hml, hown, hts⟩ := id S
  have hl : lv_has ls 1 [(0, .ref (ad 2))] := hl
  unfold wp_A_greatestRadius at h
  refine lv_aload_n hx hb dA_greatestRadius_0 rfl (lv_at hl 0 rfl) ?_
  obtain ⟨P1, g1, h⟩ := h
  refine kc_vv (As := []) (rest := []) (ci := 2) (q0 := 2) S (c_A_seekIfStale l dC dI ad kc nn σ g1) (cwV 0 hts (gV mw_228 mw_230 ps_0 mw_4 k_A_seekIfStale) rfl rfl rfl (by decide +kernel) ⟨Nat.le_of_ble_eq_true rfl, Nat.le_of_ble_eq_true rfl⟩) hK hN hA hW (fun _ => rfl) rfl rfl rfl hl.1 rfl (Nat.le_of_ble_eq_true rfl) dA_greatestRadius_1 ⟨Nat.zero_le _, Nat.zero_le _⟩ (fun s1 H locs hp hW => ?_)
  have h := h s1 hp
  refine lv_aload_n hx hb dA_greatestRadius_4 rfl (lv_at hl 0 rfl) ?_
  refine k_get (ci := 2) (C := R_A) (T := T_A) (N := 4) hx hb hts (fun w q => gG_in (inG_A w q)) hown hK hW.1 2 rfl rfl 2 (by decide) (hts _ (gG_in mw_76)) rfl dA_greatestRadius_5 ?_
  refine lv_sipush (v := iI 10000) hx hb dA_greatestRadius_8 (by decide) ?_
  refine ki_mul hx hb dA_greatestRadius_11 ?_
  obtain ⟨P2, g2, h⟩ := h
  refine kc_sp (As := [.int (iI ((s1 2 2) * 10000))]) (rest := []) S (c_A_rootOf l dC dI (tyC kc) (wC ad kc nn) nn s1 ((s1 2 2) * 10000) g2) (cwS 1 hts (gS mw_311 mw_312 mw_4 k_A_rootOf) rfl rfl rfl (by decide +kernel) ⟨Nat.le_of_ble_eq_true rfl, Nat.le_of_ble_eq_true rfl⟩) hK hN hW.1 rfl hl.1 rfl (Nat.le_of_ble_eq_true rfl) dA_greatestRadius_12 ⟨Nat.zero_le _, Nat.zero_le _⟩ (fun r1 hp => ?_)
  have h := h r1 hp
  refine lv_aload_n hx hb dA_greatestRadius_15 rfl (lv_at hl 0 rfl) ?_
  refine k_get (ci := 2) (C := R_A) (T := T_A) (N := 4) hx hb hts (fun w q => gG_in (inG_A w q)) hown hK hW.1 2 rfl rfl 0 (by decide) (hts _ (gG_in mw_74)) rfl dA_greatestRadius_16 ?_
  refine kc_vp (As := []) (rest := [.int (iI r1)]) (ci := 1) (q0 := 1) S (c_S_parts l dC dI ad kc nn s1 (P := fun r => (s1 1 2) = r) rfl) (cwV 0 hts (gV mw_244 mw_245 mw_246 mw_2 k_S_parts) rfl rfl rfl (by decide +kernel) ⟨Nat.le_of_ble_eq_true rfl, Nat.le_of_ble_eq_true rfl⟩) hK hN hW.1 rfl rfl rfl hl.1 rfl (Nat.le_of_ble_eq_true rfl) dA_greatestRadius_19 ⟨Nat.zero_le _, Nat.zero_le _⟩ (fun r2 hp => ?_)
  subst hp
  obtain ⟨q1, h⟩ := h
  refine ki_div hx hb dA_greatestRadius_22 q1 ?_
  exact k_iret hx hb hr hlocks hW dA_greatestRadius_23 h
abbrev rm_P_radius : Room := { frames := 11, cells := 0, slots := 0, locals := 256 }
set_option maxHeartbeats 4000000 in
set_option maxRecDepth 100000 in
theorem c_P_radius (l : Launch) (dC : Nat → ClassId) (dI : Nat → Nat → Nat) (ad : Nat → Nat) (kc : Nat → ClassId) (nn : Nat → Nat) (σ : kM) {P : Int → kM → Prop} (h : wp_P_radius nn σ P) : kMi l y_P_radius ws_P_radius rm_P_radius (dC, dI) vwC (tyC kc) (wC ad kc nn) nsG σ [.ref (ad 0)] P := by
  intro sz
  refine k_enter (cc := b_P_radius) (maxL := 1) (ret := (some .int)) (by decide) rfl (Nat.le_of_ble_eq_true rfl) ?_
  intro p e s m below meth c ls S hr hlocks hsz hA hW hK hN hl
  generalize va_A ((wC ad kc nn) σ) sz = A at hA hW ⊢
  generalize ([.ref (ad 0)] : List Value).toArray = args at S ⊢
  obtain ⟨hx, hb, hml, hown, hts⟩ := id S
  have hl : lv_has ls 1 [(0, .ref (ad 0))] := hl
  unfold wp_P_radius at h
  refine lv_aload_n hx hb dP_radius_0 rfl (lv_at hl 0 rfl) ?_
  refine k_get (ci := 0) (C := R_P) (T := T_P) (N := 7) hx hb hts (fun w q => gG_in (inG_P w q)) hown hK hW.1 0 rfl rfl 1 (by decide) (hts _ (gG_in mw_199)) rfl dP_radius_1 ?_
  obtain ⟨P1, g1, h⟩ := h
  refine kc_vi (As := []) (rest := []) (ci := 2) (q0 := 2) S (c_A_greatestRadius l dC dI ad kc nn σ g1) (cwV 0 hts (gV mw_307 mw_308 mw_309 mw_4 k_A_greatestRadius) rfl rfl rfl (by decide +kernel) ⟨Nat.le_of_ble_eq_true rfl, Nat.le_of_ble_eq_true rfl⟩) hK hN hA hW (fun _ => rfl) rfl rfl rfl hl.1 rfl (Nat.le_of_ble_eq_true rfl) dP_radius_4 ⟨Nat.zero_le _, Nat.zero_le _⟩ (fun r1 s1 H locs hp hW => ?_)
  have h := h r1 s1 hp
  exact k_iret hx hb hr hlocks hW dP_radius_7 h
abbrev rm_S_hasCorner : Room := { frames := 1, cells := 0, slots := 0, locals := 22 }
set_option maxHeartbeats 4000000 in
set_option maxRecDepth 100000 in
theorem c_S_hasCorner (l : Launch) (dC : Nat → ClassId) (dI : Nat → Nat → Nat) (ad : Nat → Nat) (kc : Nat → ClassId) (nn : Nat → Nat) (σ : kM) (p0 : Int) (p1 : Int) {P : Int → Prop} (h : wp_S_hasCorner nn σ p0 p1 P) : kMp l y_S_hasCorner ws_S_hasCorner rm_S_hasCorner (dC, dI) vwC (tyC kc) (wC ad kc nn) nsG σ [.ref (ad 1), .int (iI p0), .int (iI p1)] P := by
  refine k_enterP (cc := b_S_hasCorner) (maxL := 3) (ret := (some .boolean)) (by decide) rfl (Nat.le_of_ble_eq_true rfl) ?_
  intro p e s m below meth c ls S hr hlocks hP hK hN hl
  generalize ([.ref (ad 1), .int (iI p0), .int (iI p1)] : List Value).toArray = args at S ⊢
  obtain ⟨hx, hb, hml, hown, hts⟩ := id S
  have hl : lv_has ls 3 [(0, .ref (ad 1)), (1, .int (iI p0)), (2, .int (iI p1))] := hl
  unfold wp_S_hasCorner at h
  refine lv_iload_n hx hb dS_hasCorner_0 rfl (lv_at hl 1 rfl) ?_
  refine lv_iconst (v := iI 0) hx hb dS_hasCorner_1 rfl ?_
  refine lv_aload_n hx hb dS_hasCorner_2 rfl (lv_at hl 0 rfl) ?_
  refine k_get (ci := 1) (C := R_S) (T := T_S) (N := 8) hx hb hts (fun w q => gG_in (inG_S w q)) hown hK hP 1 rfl rfl 1 (by decide) (hts _ (gG_in mw_42)) rfl dS_hasCorner_3 ?_
  obtain ⟨P1, g1, h⟩ := h
  refine kc_np (As := [.int (iI p0), .int (iI 0), .int (iI (σ 1 1))]) (rest := []) S (c_P_isWithin l dC dI (tyC kc) (wC ad kc nn) nn σ p0 0 (σ 1 1) g1) ⟨va_cnB 3 hts (gG_good k_P_isWithin) rfl rfl rfl (hN _ (List.mem_of_getElem? (i := 5) rfl)) (hts _ (gG_in mw_1)) (by decide +kernel) ⟨Nat.le_of_ble_eq_true rfl, Nat.le_of_ble_eq_true rfl⟩, hts _ (gG_in mw_270), trivial⟩ hK hN hP rfl hl.1 rfl (Nat.le_of_ble_eq_true rfl) dS_hasCorner_6 ⟨Nat.zero_le _, Nat.zero_le _⟩ (fun r1 hp => ?_)
  have h := h r1 hp
  obtain ⟨q1, h⟩ := h
  obtain ⟨ht, hf⟩ := h
  refine ki_if_eq (tgt := 28) hx hb dS_hasCorner_9 (by decide) q1 (fun c1 => ?_) (fun c1 => ?_)
  · have h := ht c1
    refine lv_iconst (v := iI 0) hx hb dS_hasCorner_28 rfl ?_
    exact k_zretP hx hb hr hlocks dS_hasCorner_29 (by decide) h
  · have h := hf c1
    refine lv_iload_n hx hb dS_hasCorner_12 rfl (lv_at hl 2 rfl) ?_
    refine lv_iconst (v := iI 0) hx hb dS_hasCorner_13 rfl ?_
    refine lv_aload_n hx hb dS_hasCorner_14 rfl (lv_at hl 0 rfl) ?_
    refine k_get (ci := 1) (C := R_S) (T := T_S) (N := 8) hx hb hts (fun w q => gG_in (inG_S w q)) hown hK hP 1 rfl rfl 1 (by decide) (hts _ (gG_in mw_42)) rfl dS_hasCorner_15 ?_
    obtain ⟨P2, g2, h⟩ := h
    refine kc_np (As := [.int (iI p1), .int (iI 0), .int (iI (σ 1 1))]) (rest := []) S (c_P_isWithin l dC dI (tyC kc) (wC ad kc nn) nn σ p1 0 (σ 1 1) g2) ⟨va_cnB 3 hts (gG_good k_P_isWithin) rfl rfl rfl (hN _ (List.mem_of_getElem? (i := 5) rfl)) (hts _ (gG_in mw_1)) (by decide +kernel) ⟨Nat.le_of_ble_eq_true rfl, Nat.le_of_ble_eq_true rfl⟩, hts _ (gG_in mw_270), trivial⟩ hK hN hP rfl hl.1 rfl (Nat.le_of_ble_eq_true rfl) dS_hasCorner_18 ⟨Nat.zero_le _, Nat.zero_le _⟩ (fun r2 hp => ?_)
    have h := h r2 hp
    obtain ⟨q2, h⟩ := h
    obtain ⟨ht, hf⟩ := h
    refine ki_if_eq (tgt := 28) hx hb dS_hasCorner_21 (by decide) q2 (fun c2 => ?_) (fun c2 => ?_)
    · have h := ht c2
      refine lv_iconst (v := iI 0) hx hb dS_hasCorner_28 rfl ?_
      exact k_zretP hx hb hr hlocks dS_hasCorner_29 (by decide) h
    · have h := hf c2
      refine lv_iconst (v := iI 1) hx hb dS_hasCorner_24 rfl ?_
      refine lv_goto (tgt := 29) hx hb dS_hasCorner_25 (by decide) ?_
      exact k_zretP hx hb hr hlocks dS_hasCorner_29 (by decide) h
end
section
abbrev rm_A_exactRoom : Room := { frames := 7, cells := 0, slots := 0, locals := 169 }
set_option maxHeartbeats 4000000 in
set_option maxRecDepth 100000 in
theorem c_A_exactRoom (l : Launch) (dC : Nat → ClassId) (dI : Nat → Nat → Nat) (ad : Nat → Nat) (kc : Nat → ClassId) (nn : Nat → Nat) (σ : kM) (p0 : Int) (p1 : Int) (p2 : Int) (p3 : Int) {P : Int → kM → Prop} (h : wp_A_exactRoom nn σ p0 p1 p2 p3 P) : kMi l y_A_exactRoom ws_A_exactRoom rm_A_exactRoom (dC, dI) vwC (tyC kc) (wC ad kc nn) nsG σ [.ref (ad 2), .int (iI p0), .int (iI p1), .int (iI p2), .int (iI p3)] P := by
  intro sz
  refine k_enter (cc := b_A_exactRoom) (maxL := 5) (ret := (some .int)) (by decide) rfl (Nat.le_of_ble_eq_true rfl) ?_
  intro p e s m below meth c ls S hr hlocks hsz hA hW hK hN hl
  generalize va_A ((wC ad kc nn) σ) sz = A at hA hW ⊢
  generalize ([.ref (ad 2), .int (iI p0), .int (iI p1), .int (iI p2), .int (iI p3)] : List Value).toArray = args at S ⊢
  obtain ⟨hx, hb, hml, hown, hts⟩ := id S
  have hl : lv_has ls 5 [(0, .ref (ad 2)), (1, .int (iI p0)), (2, .int (iI p1)), (3, .int (iI p2)), (4, .int (iI p3))] := hl
  unfold wp_A_exactRoom at h
  refine lv_aload_n hx hb dA_exactRoom_0 rfl (lv_at hl 0 rfl) ?_
  refine lv_iconst (v := iI 0) hx hb dA_exactRoom_1 rfl ?_
  refine lv_iload_n hx hb dA_exactRoom_2 rfl (lv_at hl 1 rfl) ?_
  refine lv_iload_n hx hb dA_exactRoom_3 rfl (lv_at hl 2 rfl) ?_
  refine lv_iload_n hx hb dA_exactRoom_4 rfl (lv_at hl 3 rfl) ?_
  refine lv_iload hx hb dA_exactRoom_5 (lv_at hl 4 rfl) ?_
  obtain ⟨P1, g1, h⟩ := h
  refine kc_vi (As := [.int (iI 0), .int (iI p0), .int (iI p1), .int (iI p2), .int (iI p3)]) (rest := []) (ci := 2) (q0 := 2) S (c_A_roomAbove l dC dI ad kc nn σ 0 p0 p1 p2 p3 g1) (cwV 5 hts (gV mw_289 mw_291 ps_10 mw_4 k_A_roomAbove) rfl rfl rfl (by decide +kernel) ⟨Nat.le_of_ble_eq_true rfl, Nat.le_of_ble_eq_true rfl⟩) hK hN hA hW (fun _ => rfl) rfl rfl rfl hl.1 rfl (Nat.le_of_ble_eq_true rfl) dA_exactRoom_7 ⟨Nat.zero_le _, Nat.zero_le _⟩ (fun r1 s1 H locs hp hW => ?_)
  have h := h r1 s1 hp
  exact k_iret hx hb hr hlocks hW dA_exactRoom_10 h
abbrev rm_P_roomOf : Room := { frames := 8, cells := 0, slots := 0, locals := 193 }
set_option maxHeartbeats 4000000 in
set_option maxRecDepth 100000 in
theorem c_P_roomOf (l : Launch) (dC : Nat → ClassId) (dI : Nat → Nat → Nat) (ad : Nat → Nat) (kc : Nat → ClassId) (nn : Nat → Nat) (σ : kM) (p0 : Int) (p1 : Int) (p2 : Int) (p3 : Int) {P : Int → kM → Prop} (h : wp_P_roomOf nn σ p0 p1 p2 p3 P (fun _ _ => False)) : kMi l y_P_roomOf ws_P_roomOf rm_P_roomOf (dC, dI) vwC (tyC kc) (wC ad kc nn) nsG σ [.ref (ad 0), .int (iI p0), .int (iI p1), .int (iI p2), .int (iI p3)] P := by
  intro sz
  refine k_enter (cc := b_P_roomOf) (maxL := 5) (ret := (some .int)) (by decide) rfl (Nat.le_of_ble_eq_true rfl) ?_
  intro p e s m below meth c ls S hr hlocks hsz hA hW hK hN hl
  generalize va_A ((wC ad kc nn) σ) sz = A at hA hW ⊢
  generalize ([.ref (ad 0), .int (iI p0), .int (iI p1), .int (iI p2), .int (iI p3)] : List Value).toArray = args at S ⊢
  obtain ⟨hx, hb, hml, hown, hts⟩ := id S
  have hl : lv_has ls 5 [(0, .ref (ad 0)), (1, .int (iI p0)), (2, .int (iI p1)), (3, .int (iI p2)), (4, .int (iI p3))] := hl
  unfold wp_P_roomOf at h
  refine lv_aload_n hx hb dP_roomOf_0 rfl (lv_at hl 0 rfl) ?_
  refine k_get (ci := 0) (C := R_P) (T := T_P) (N := 7) hx hb hts (fun w q => gG_in (inG_P w q)) hown hK hW.1 0 rfl rfl 0 (by decide) (hts _ (gG_in mw_198)) rfl dP_roomOf_1 ?_
  refine lv_iload_n hx hb dP_roomOf_4 rfl (lv_at hl 1 rfl) ?_
  refine lv_iload_n hx hb dP_roomOf_5 rfl (lv_at hl 2 rfl) ?_
  obtain ⟨P1, g1, h⟩ := h
  refine kc_vp (As := [.int (iI p0), .int (iI p1)]) (rest := []) (ci := 1) (q0 := 1) S (c_S_hasCorner l dC dI ad kc nn σ p0 p1 g1) (cwV 2 hts (gV mw_430 mw_431 mw_432 mw_2 k_S_hasCorner) rfl rfl rfl (by decide +kernel) ⟨Nat.le_of_ble_eq_true rfl, Nat.le_of_ble_eq_true rfl⟩) hK hN hW.1 rfl rfl rfl hl.1 rfl (Nat.le_of_ble_eq_true rfl) dP_roomOf_6 ⟨Nat.zero_le _, Nat.zero_le _⟩ (fun r1 hp => ?_)
  have h := h r1 hp
  obtain ⟨q1, h⟩ := h
  obtain ⟨ht, hf⟩ := h
  refine ki_if_eq (tgt := 25) hx hb dP_roomOf_9 (by decide) q1 (fun c1 => ?_) (fun c1 => ?_)
  · have h := ht c1
    exact False.elim h
  · have h := hf c1
    refine lv_aload_n hx hb dP_roomOf_12 rfl (lv_at hl 0 rfl) ?_
    refine k_get (ci := 0) (C := R_P) (T := T_P) (N := 7) hx hb hts (fun w q => gG_in (inG_P w q)) hown hK hW.1 0 rfl rfl 0 (by decide) (hts _ (gG_in mw_198)) rfl dP_roomOf_13 ?_
    refine lv_iload_n hx hb dP_roomOf_16 rfl (lv_at hl 3 rfl) ?_
    refine lv_iload hx hb dP_roomOf_17 (lv_at hl 4 rfl) ?_
    obtain ⟨P2, g2, h⟩ := h
    refine kc_vp (As := [.int (iI p2), .int (iI p3)]) (rest := []) (ci := 1) (q0 := 1) S (c_S_hasCorner l dC dI ad kc nn σ p2 p3 g2) (cwV 2 hts (gV mw_430 mw_431 mw_432 mw_2 k_S_hasCorner) rfl rfl rfl (by decide +kernel) ⟨Nat.le_of_ble_eq_true rfl, Nat.le_of_ble_eq_true rfl⟩) hK hN hW.1 rfl rfl rfl hl.1 rfl (Nat.le_of_ble_eq_true rfl) dP_roomOf_19 ⟨Nat.zero_le _, Nat.zero_le _⟩ (fun r2 hp => ?_)
    have h := h r2 hp
    obtain ⟨q2, h⟩ := h
    obtain ⟨ht, hf⟩ := h
    refine ki_if_ne (tgt := 35) hx hb dP_roomOf_22 (by decide) q2 (fun c2 => ?_) (fun c2 => ?_)
    · have h := ht c2
      refine lv_aload_n hx hb dP_roomOf_35 rfl (lv_at hl 0 rfl) ?_
      refine k_get (ci := 0) (C := R_P) (T := T_P) (N := 7) hx hb hts (fun w q => gG_in (inG_P w q)) hown hK hW.1 0 rfl rfl 1 (by decide) (hts _ (gG_in mw_199)) rfl dP_roomOf_36 ?_
      refine lv_iload_n hx hb dP_roomOf_39 rfl (lv_at hl 1 rfl) ?_
      refine lv_iload_n hx hb dP_roomOf_40 rfl (lv_at hl 2 rfl) ?_
      refine lv_iload_n hx hb dP_roomOf_41 rfl (lv_at hl 3 rfl) ?_
      refine lv_iload hx hb dP_roomOf_42 (lv_at hl 4 rfl) ?_
      obtain ⟨P3, g3, h⟩ := h
      refine kc_vi (As := [.int (iI p0), .int (iI p1), .int (iI p2), .int (iI p3)]) (rest := []) (ci := 2) (q0 := 2) S (c_A_exactRoom l dC dI ad kc nn σ p0 p1 p2 p3 g3) (cwV 4 hts (gV mw_435 mw_436 mw_437 mw_4 k_A_exactRoom) rfl rfl rfl (by decide +kernel) ⟨Nat.le_of_ble_eq_true rfl, Nat.le_of_ble_eq_true rfl⟩) hK hN hA hW (fun _ => rfl) rfl rfl rfl hl.1 rfl (Nat.le_of_ble_eq_true rfl) dP_roomOf_44 ⟨Nat.zero_le _, Nat.zero_le _⟩ (fun r3 s1 H locs hp hW => ?_)
      have h := h r3 s1 hp
      exact k_iret hx hb hr hlocks hW dP_roomOf_47 h
    · have h := hf c2
      exact False.elim h
abbrev rm_R_peelOff : Room := { frames := 1, cells := 0, slots := 0, locals := 14 }
set_option maxHeartbeats 4000000 in
set_option maxRecDepth 100000 in
theorem c_R_peelOff (l : Launch) (dC : Nat → ClassId) (dI : Nat → Nat → Nat) (ad : Nat → Nat) (kc : Nat → ClassId) (nn : Nat → Nat) (σ : kM) (p0 : Int) (p1 : Int) (p2 : Int) {P : kM → Prop} (h : wp_R_peelOff nn σ p0 p1 p2 P) : kMv l y_R_peelOff ws_R_peelOff rm_R_peelOff (dC, dI) vwC (tyC kc) (wC ad kc nn) nsG σ [.ref (ad 3), .int (iI p0), .int (iI p1), .int (iI p2)] P := by
  intro sz
  refine k_enter (cc := b_R_peelOff) (maxL := 4) (ret := none) (by decide) rfl (Nat.le_of_ble_eq_true rfl) ?_
  intro p e s m below meth c ls S hr hlocks hsz hA hW hK hN hl
  generalize va_A ((wC ad kc nn) σ) sz = A at hA hW ⊢
  generalize ([.ref (ad 3), .int (iI p0), .int (iI p1), .int (iI p2)] : List Value).toArray = args at S ⊢
  obtain ⟨hx, hb, hml, hown, hts⟩ := id S
  have hl : lv_has ls 4 [(0, .ref (ad 3)), (1, .int (iI p0)), (2, .int (iI p1)), (3, .int (iI p2))] := hl
  unfold wp_R_peelOff at h
  refine lv_aload_n hx hb dR_peelOff_0 rfl (lv_at hl 0 rfl) ?_
  refine lv_iload_n hx hb dR_peelOff_1 rfl (lv_at hl 1 rfl) ?_
  obtain ⟨s1, es1⟩ : ∃ z : kM, z = va_up σ 3 (va_up (σ 3) 1 p0) := ⟨_, rfl⟩
  refine k_put (ty := .int) (ws' := wC ad kc nn s1) (ci := 3) (C := R_R) (T := T_R) (N := 4) hx hb hts (fun w q => gG_in (inG_R w q)) ty_R tk_R nm_R hown hK hW 3 rfl rfl 1 (by decide) (hts _ (gG_in mw_94)) rfl (by decide +kernel) rfl rfl (Nat.le_of_ble_eq_true rfl) (by rw [es1]; exact wC_p3_1 ..) dR_peelOff_2 (fun H locs hW => ?_)
  have h := h s1 es1
  refine lv_aload_n hx hb dR_peelOff_5 rfl (lv_at hl 0 rfl) ?_
  refine lv_iconst (v := iI 1) hx hb dR_peelOff_6 rfl ?_
  refine lv_iload_n hx hb dR_peelOff_7 rfl (lv_at hl 2 rfl) ?_
  obtain ⟨q1, h⟩ := h
  refine kmx hx hb (hml.trans hl.1.symm) hown (hts _ (gG_in mw_467)) (hts _ (gG_in mw_34)) (hts _ (gG_in mw_3)) (hts _ (gG_in mk_max)) ⟨Nat.le_of_ble_eq_true rfl, Nat.le_of_ble_eq_true rfl⟩ ⟨Nat.zero_le _, Nat.zero_le _⟩ (by constructor <;> decide) q1 dR_peelOff_8 ?_
  obtain ⟨s2, es2⟩ : ∃ z : kM, z = va_up s1 3 (va_up (s1 3) 2 (if 1 < p1 then p1 else 1)) := ⟨_, rfl⟩
  refine k_put (ty := .int) (ws' := wC ad kc nn s2) (ci := 3) (C := R_R) (T := T_R) (N := 4) hx hb hts (fun w q => gG_in (inG_R w q)) ty_R tk_R nm_R hown hK hW 3 rfl rfl 2 (by decide) (hts _ (gG_in mw_95)) rfl (by decide +kernel) rfl rfl (Nat.le_of_ble_eq_true rfl) (by rw [es2]; exact wC_p3_2 ..) dR_peelOff_11 (fun H locs hW => ?_)
  have h := h s2 es2
  refine lv_aload_n hx hb dR_peelOff_14 rfl (lv_at hl 0 rfl) ?_
  refine lv_aload_n hx hb dR_peelOff_15 rfl (lv_at hl 0 rfl) ?_
  refine k_get (ci := 3) (C := R_R) (T := T_R) (N := 4) hx hb hts (fun w q => gG_in (inG_R w q)) hown hK hW.1 3 rfl rfl 1 (by decide) (hts _ (gG_in mw_94)) rfl dR_peelOff_16 ?_
  refine lv_iload_n hx hb dR_peelOff_19 rfl (lv_at hl 3 rfl) ?_
  obtain ⟨q2, h⟩ := h
  obtain ⟨q3, h⟩ := h
  obtain ⟨ht, hf⟩ := h
  refine ki_icmp_ge (tgt := 27) hx hb dR_peelOff_20 (by decide) q2 q3 (fun c1 => ?_) (fun c1 => ?_)
  · have h := ht c1
    refine lv_aload_n hx hb dR_peelOff_27 rfl (lv_at hl 0 rfl) ?_
    refine k_get (ci := 3) (C := R_R) (T := T_R) (N := 4) hx hb hts (fun w q => gG_in (inG_R w q)) hown hK hW.1 3 rfl rfl 1 (by decide) (hts _ (gG_in mw_94)) rfl dR_peelOff_28 ?_
    refine lv_iload_n hx hb dR_peelOff_31 rfl (lv_at hl 3 rfl) ?_
    refine ki_sub hx hb dR_peelOff_32 ?_
    refine lv_aload_n hx hb dR_peelOff_33 rfl (lv_at hl 0 rfl) ?_
    refine k_get (ci := 3) (C := R_R) (T := T_R) (N := 4) hx hb hts (fun w q => gG_in (inG_R w q)) hown hK hW.1 3 rfl rfl 2 (by decide) (hts _ (gG_in mw_95)) rfl dR_peelOff_34 ?_
    obtain ⟨q4, h⟩ := h
    refine ki_div hx hb dR_peelOff_37 q4 ?_
    obtain ⟨s3, es3⟩ : ∃ z : kM, z = va_up s2 3 (va_up (s2 3) 3 (((s2 3 1) - p2) / (s2 3 2))) := ⟨_, rfl⟩
    refine k_put (ty := .int) (ws' := wC ad kc nn s3) (ci := 3) (C := R_R) (T := T_R) (N := 4) hx hb hts (fun w q => gG_in (inG_R w q)) ty_R tk_R nm_R hown hK hW 3 rfl rfl 3 (by decide) (hts _ (gG_in mw_96)) rfl (by decide +kernel) rfl rfl (Nat.le_of_ble_eq_true rfl) (by rw [es3]; exact wC_p3_3 ..) dR_peelOff_38 (fun H locs hW => ?_)
    have h := h s3 es3
    refine lv_aload_n hx hb dR_peelOff_41 rfl (lv_at hl 0 rfl) ?_
    refine lv_iconst (v := iI 1) hx hb dR_peelOff_42 rfl ?_
    obtain ⟨s4, es4⟩ : ∃ z : kM, z = va_up s3 3 (va_up (s3 3) 0 1) := ⟨_, rfl⟩
    refine k_put (ty := .boolean) (ws' := wC ad kc nn s4) (ci := 3) (C := R_R) (T := T_R) (N := 4) hx hb hts (fun w q => gG_in (inG_R w q)) ty_R tk_R nm_R hown hK hW 3 rfl rfl 0 (by decide) (hts _ (gG_in mw_93)) rfl (by decide +kernel) (narZ (by decide)) (fitZ (by decide)) (Nat.le_of_ble_eq_true rfl) (by rw [es4]; exact wC_p3_0 ..) dR_peelOff_43 (fun H locs hW => ?_)
    have h := h s4 es4
    exact k_vret hx hb hr hlocks hW dR_peelOff_46 h
  · have h := hf c1
    refine lv_iconst (v := iI 0) hx hb dR_peelOff_23 rfl ?_
    refine lv_goto (tgt := 38) hx hb dR_peelOff_24 (by decide) ?_
    obtain ⟨s5, es5⟩ : ∃ z : kM, z = va_up s2 3 (va_up (s2 3) 3 0) := ⟨_, rfl⟩
    refine k_put (ty := .int) (ws' := wC ad kc nn s5) (ci := 3) (C := R_R) (T := T_R) (N := 4) hx hb hts (fun w q => gG_in (inG_R w q)) ty_R tk_R nm_R hown hK hW 3 rfl rfl 3 (by decide) (hts _ (gG_in mw_96)) rfl (by decide +kernel) rfl rfl (Nat.le_of_ble_eq_true rfl) (by rw [es5]; exact wC_p3_3 ..) dR_peelOff_38 (fun H locs hW => ?_)
    have h := h s5 es5
    refine lv_aload_n hx hb dR_peelOff_41 rfl (lv_at hl 0 rfl) ?_
    refine lv_iconst (v := iI 1) hx hb dR_peelOff_42 rfl ?_
    obtain ⟨s6, es6⟩ : ∃ z : kM, z = va_up s5 3 (va_up (s5 3) 0 1) := ⟨_, rfl⟩
    refine k_put (ty := .boolean) (ws' := wC ad kc nn s6) (ci := 3) (C := R_R) (T := T_R) (N := 4) hx hb hts (fun w q => gG_in (inG_R w q)) ty_R tk_R nm_R hown hK hW 3 rfl rfl 0 (by decide) (hts _ (gG_in mw_93)) rfl (by decide +kernel) (narZ (by decide)) (fitZ (by decide)) (Nat.le_of_ble_eq_true rfl) (by rw [es6]; exact wC_p3_0 ..) dR_peelOff_43 (fun H locs hW => ?_)
    have h := h s6 es6
    exact k_vret hx hb hr hlocks hW dR_peelOff_46 h
abbrev rm_R_turns : Room := { frames := 0, cells := 0, slots := 0, locals := 0 }
set_option maxHeartbeats 4000000 in
set_option maxRecDepth 100000 in
theorem c_R_turns (l : Launch) (dC : Nat → ClassId) (dI : Nat → Nat → Nat) (ad : Nat → Nat) (kc : Nat → ClassId) (nn : Nat → Nat) (σ : kM) {P : Int → Prop} (h : wp_R_turns nn σ P) : kMp l y_R_turns ws_R_turns rm_R_turns (dC, dI) vwC (tyC kc) (wC ad kc nn) nsG σ [.ref (ad 3)] P := by
  refine k_enterP (cc := b_R_turns) (maxL := 1) (ret := (some .int)) (by decide) rfl (Nat.le_of_ble_eq_true rfl) ?_
  intro p e s m below meth c ls S hr hlocks hP hK hN hl
  generalize ([.ref (ad 3)] : List Value).toArray = args at S ⊢
  obtain ⟨hx, hb, hml, hown, hts⟩ := id S
  have hl : lv_has ls 1 [(0, .ref (ad 3))] := hl
  unfold wp_R_turns at h
  refine lv_aload_n hx hb dR_turns_0 rfl (lv_at hl 0 rfl) ?_
  refine k_get (ci := 3) (C := R_R) (T := T_R) (N := 4) hx hb hts (fun w q => gG_in (inG_R w q)) hown hK hP 3 rfl rfl 3 (by decide) (hts _ (gG_in mw_96)) rfl dR_turns_1 ?_
  exact k_iretP hx hb hr hlocks dR_turns_4 h
abbrev rm_P_peel : Room := { frames := 11, cells := 0, slots := 0, locals := 256 }
set_option maxHeartbeats 4000000 in
set_option maxRecDepth 100000 in
theorem c_P_peel (l : Launch) (dC : Nat → ClassId) (dI : Nat → Nat → Nat) (ad : Nat → Nat) (kc : Nat → ClassId) (nn : Nat → Nat) (σ : kM) (p0 : Int) (p1 : Int) {P : Int → kM → Prop} (h : wp_P_peel nn σ p0 p1 P (fun _ _ => False)) : kMi l y_P_peel ws_P_peel rm_P_peel (dC, dI) vwC (tyC kc) (wC ad kc nn) nsG σ [.ref (ad 0), .int (iI p0), .int (iI p1)] P := by
  intro sz
  refine k_enter (cc := b_P_peel) (maxL := 3) (ret := (some .int)) (by decide) rfl (Nat.le_of_ble_eq_true rfl) ?_
  intro p e s m below meth c ls S hr hlocks hsz hA hW hK hN hl
  generalize va_A ((wC ad kc nn) σ) sz = A at hA hW ⊢
  generalize ([.ref (ad 0), .int (iI p0), .int (iI p1)] : List Value).toArray = args at S ⊢
  obtain ⟨hx, hb, hml, hown, hts⟩ := id S
  have hl : lv_has ls 3 [(0, .ref (ad 0)), (1, .int (iI p0)), (2, .int (iI p1))] := hl
  unfold wp_P_peel at h
  refine lv_iload_n hx hb dP_peel_0 rfl (lv_at hl 1 rfl) ?_
  refine lv_iconst (v := iI 1) hx hb dP_peel_1 rfl ?_
  refine lv_sipush (v := iI 1000) hx hb dP_peel_2 (by decide) ?_
  obtain ⟨P1, g1, h⟩ := h
  refine kc_sp (As := [.int (iI p0), .int (iI 1), .int (iI 1000)]) (rest := []) S (c_P_isWithin l dC dI (tyC kc) (wC ad kc nn) nn σ p0 1 1000 g1) (cwS 3 hts (gS mw_417 mw_270 mw_1 k_P_isWithin) rfl rfl rfl (by decide +kernel) ⟨Nat.le_of_ble_eq_true rfl, Nat.le_of_ble_eq_true rfl⟩) hK hN hW.1 rfl hl.1 rfl (Nat.le_of_ble_eq_true rfl) dP_peel_5 ⟨Nat.zero_le _, Nat.zero_le _⟩ (fun r1 hp => ?_)
  have h := h r1 hp
  obtain ⟨q1, h⟩ := h
  obtain ⟨ht, hf⟩ := h
  refine ki_if_eq (tgt := 22) hx hb dP_peel_8 (by decide) q1 (fun c1 => ?_) (fun c1 => ?_)
  · have h := ht c1
    exact False.elim h
  · have h := hf c1
    refine lv_iload_n hx hb dP_peel_11 rfl (lv_at hl 2 rfl) ?_
    refine lv_iconst (v := iI 0) hx hb dP_peel_12 rfl ?_
    refine lv_sipush (v := iI 1000) hx hb dP_peel_13 (by decide) ?_
    obtain ⟨P2, g2, h⟩ := h
    refine kc_sp (As := [.int (iI p1), .int (iI 0), .int (iI 1000)]) (rest := []) S (c_P_isWithin l dC dI (tyC kc) (wC ad kc nn) nn σ p1 0 1000 g2) (cwS 3 hts (gS mw_417 mw_270 mw_1 k_P_isWithin) rfl rfl rfl (by decide +kernel) ⟨Nat.le_of_ble_eq_true rfl, Nat.le_of_ble_eq_true rfl⟩) hK hN hW.1 rfl hl.1 rfl (Nat.le_of_ble_eq_true rfl) dP_peel_16 ⟨Nat.zero_le _, Nat.zero_le _⟩ (fun r2 hp => ?_)
    have h := h r2 hp
    obtain ⟨q2, h⟩ := h
    obtain ⟨ht, hf⟩ := h
    refine ki_if_ne (tgt := 32) hx hb dP_peel_19 (by decide) q2 (fun c2 => ?_) (fun c2 => ?_)
    · have h := ht c2
      refine lv_aload_n hx hb dP_peel_32 rfl (lv_at hl 0 rfl) ?_
      refine k_get (ci := 0) (C := R_P) (T := T_P) (N := 7) hx hb hts (fun w q => gG_in (inG_P w q)) hown hK hW.1 0 rfl rfl 2 (by decide) (hts _ (gG_in mw_200)) rfl dP_peel_33 ?_
      refine lv_aload_n hx hb dP_peel_36 rfl (lv_at hl 0 rfl) ?_
      refine k_get (ci := 0) (C := R_P) (T := T_P) (N := 7) hx hb hts (fun w q => gG_in (inG_P w q)) hown hK hW.1 0 rfl rfl 1 (by decide) (hts _ (gG_in mw_199)) rfl dP_peel_37 ?_
      obtain ⟨P3, g3, h⟩ := h
      refine kc_vi (As := []) (rest := [.ref (ad 3)]) (ci := 2) (q0 := 2) S (c_A_greatestRadius l dC dI ad kc nn σ g3) (cwV 0 hts (gV mw_307 mw_308 mw_309 mw_4 k_A_greatestRadius) rfl rfl rfl (by decide +kernel) ⟨Nat.le_of_ble_eq_true rfl, Nat.le_of_ble_eq_true rfl⟩) hK hN hA hW (fun _ => rfl) rfl rfl rfl hl.1 rfl (Nat.le_of_ble_eq_true rfl) dP_peel_40 ⟨Nat.zero_le _, Nat.zero_le _⟩ (fun r3 s1 H locs hp hW => ?_)
      have h := h r3 s1 hp
      refine lv_iload_n hx hb dP_peel_43 rfl (lv_at hl 1 rfl) ?_
      refine lv_iload_n hx hb dP_peel_44 rfl (lv_at hl 2 rfl) ?_
      obtain ⟨P4, g4, h⟩ := h
      refine kc_vv (As := [.int (iI r3), .int (iI p0), .int (iI p1)]) (rest := []) (ci := 3) (q0 := 3) S (c_R_peelOff l dC dI ad kc nn s1 r3 p0 p1 g4) (cwV 3 hts (gV mw_463 mw_464 mw_465 mw_5 k_R_peelOff) rfl rfl rfl (by decide +kernel) ⟨Nat.le_of_ble_eq_true rfl, Nat.le_of_ble_eq_true rfl⟩) hK hN hA hW (fun _ => rfl) rfl rfl rfl hl.1 rfl (Nat.le_of_ble_eq_true rfl) dP_peel_45 ⟨Nat.zero_le _, Nat.zero_le _⟩ (fun s2 H locs hp hW => ?_)
      have h := h s2 hp
      refine lv_aload_n hx hb dP_peel_48 rfl (lv_at hl 0 rfl) ?_
      refine k_get (ci := 0) (C := R_P) (T := T_P) (N := 7) hx hb hts (fun w q => gG_in (inG_P w q)) hown hK hW.1 0 rfl rfl 5 (by decide) (hts _ (gG_in mw_203)) rfl dP_peel_49 ?_
      obtain ⟨P5, g5, h⟩ := h
      refine kc_vv (As := []) (rest := []) (ci := 6) (q0 := 6) S (c_C_forget l dC dI ad kc nn s2 g5) (cwV 0 hts (gV mw_406 mw_407 mw_408 mw_8 k_C_forget) rfl rfl rfl (by decide +kernel) ⟨Nat.le_of_ble_eq_true rfl, Nat.le_of_ble_eq_true rfl⟩) hK hN hA hW (fun _ => rfl) rfl rfl rfl hl.1 rfl (Nat.le_of_ble_eq_true rfl) dP_peel_52 ⟨Nat.zero_le _, Nat.zero_le _⟩ (fun s3 H locs hp hW => ?_)
      have h := h s3 hp
      refine lv_aload_n hx hb dP_peel_55 rfl (lv_at hl 0 rfl) ?_
      refine k_get (ci := 0) (C := R_P) (T := T_P) (N := 7) hx hb hts (fun w q => gG_in (inG_P w q)) hown hK hW.1 0 rfl rfl 2 (by decide) (hts _ (gG_in mw_200)) rfl dP_peel_56 ?_
      refine kc_vp (As := []) (rest := []) (ci := 3) (q0 := 3) S (c_R_turns l dC dI ad kc nn s3 (P := fun r => (s3 3 3) = r) rfl) (cwV 0 hts (gV mw_468 mw_469 mw_470 mw_5 k_R_turns) rfl rfl rfl (by decide +kernel) ⟨Nat.le_of_ble_eq_true rfl, Nat.le_of_ble_eq_true rfl⟩) hK hN hW.1 rfl rfl rfl hl.1 rfl (Nat.le_of_ble_eq_true rfl) dP_peel_59 ⟨Nat.zero_le _, Nat.zero_le _⟩ (fun r4 hp => ?_)
      subst hp
      exact k_iret hx hb hr hlocks hW dP_peel_62 h
    · have h := hf c2
      exact False.elim h
abbrev rm_R_isPeeled : Room := { frames := 0, cells := 0, slots := 0, locals := 0 }
set_option maxHeartbeats 4000000 in
set_option maxRecDepth 100000 in
theorem c_R_isPeeled (l : Launch) (dC : Nat → ClassId) (dI : Nat → Nat → Nat) (ad : Nat → Nat) (kc : Nat → ClassId) (nn : Nat → Nat) (σ : kM) {P : Int → Prop} (h : wp_R_isPeeled nn σ P) : kMp l y_R_isPeeled ws_R_isPeeled rm_R_isPeeled (dC, dI) vwC (tyC kc) (wC ad kc nn) nsG σ [.ref (ad 3)] P := by
  refine k_enterP (cc := b_R_isPeeled) (maxL := 1) (ret := (some .boolean)) (by decide) rfl (Nat.le_of_ble_eq_true rfl) ?_
  intro p e s m below meth c ls S hr hlocks hP hK hN hl
  generalize ([.ref (ad 3)] : List Value).toArray = args at S ⊢
  obtain ⟨hx, hb, hml, hown, hts⟩ := id S
  have hl : lv_has ls 1 [(0, .ref (ad 3))] := hl
  unfold wp_R_isPeeled at h
  refine lv_aload_n hx hb dR_isPeeled_0 rfl (lv_at hl 0 rfl) ?_
  refine k_get (ci := 3) (C := R_R) (T := T_R) (N := 4) hx hb hts (fun w q => gG_in (inG_R w q)) hown hK hP 3 rfl rfl 0 (by decide) (hts _ (gG_in mw_93)) rfl dR_isPeeled_1 ?_
  exact k_zretP hx hb hr hlocks dR_isPeeled_4 h.1 h.2
abbrev rm_R_roundOf : Room := { frames := 0, cells := 0, slots := 0, locals := 0 }
set_option maxHeartbeats 4000000 in
set_option maxRecDepth 100000 in
theorem c_R_roundOf (l : Launch) (dC : Nat → ClassId) (dI : Nat → Nat → Nat) (tys : List (ClassId × FieldType)) (w : kM → va_W) (nn : Nat → Nat) (σ : kM) (p0 : Int) {P : Int → Prop} (h : wp_R_roundOf nn σ p0 P) : kMp l y_R_roundOf ws_R_roundOf rm_R_roundOf (dC, dI) vwC tys w nsG σ [.int (iI p0)] P := by
  refine k_enterP (cc := b_R_roundOf) (maxL := 1) (ret := (some .int)) (by decide) rfl (Nat.le_of_ble_eq_true rfl) ?_
  intro p e s m below meth c ls S hr hlocks hP hK hN hl
  generalize ([.int (iI p0)] : List Value).toArray = args at S ⊢
  obtain ⟨hx, hb, hml, hown, hts⟩ := id S
  have hl : lv_has ls 1 [(0, .int (iI p0))] := hl
  unfold wp_R_roundOf at h
  refine lv_iload_n hx hb dR_roundOf_0 rfl (lv_at hl 0 rfl) ?_
  refine lv_sipush (v := iI 710) hx hb dR_roundOf_1 (by decide) ?_
  refine ki_mul hx hb dR_roundOf_4 ?_
  refine lv_bipush (v := iI 113) hx hb dR_roundOf_5 (by decide) ?_
  obtain ⟨q1, h⟩ := h
  refine ki_div hx hb dR_roundOf_7 ⟨q1.1, by constructor <;> decide, q1.2, by decide⟩ ?_
  exact k_iretP hx hb hr hlocks dR_roundOf_8 h
abbrev rm_R_lengthBefore : Room := { frames := 1, cells := 0, slots := 0, locals := 20 }
set_option maxHeartbeats 4000000 in
set_option maxRecDepth 100000 in
theorem c_R_lengthBefore (l : Launch) (dC : Nat → ClassId) (dI : Nat → Nat → Nat) (ad : Nat → Nat) (kc : Nat → ClassId) (nn : Nat → Nat) (σ : kM) (p0 : Int) {P : Int → Prop} (h : wp_R_lengthBefore nn σ p0 P) : kMp l y_R_lengthBefore ws_R_lengthBefore rm_R_lengthBefore (dC, dI) vwC (tyC kc) (wC ad kc nn) nsG σ [.ref (ad 3), .int (iI p0)] P := by
  refine k_enterP (cc := b_R_lengthBefore) (maxL := 3) (ret := (some .int)) (by decide) rfl (Nat.le_of_ble_eq_true rfl) ?_
  intro p e s m below meth c ls S hr hlocks hP hK hN hl
  generalize ([.ref (ad 3), .int (iI p0)] : List Value).toArray = args at S ⊢
  obtain ⟨hx, hb, hml, hown, hts⟩ := id S
  have hl : lv_has ls 3 [(0, .ref (ad 3)), (1, .int (iI p0))] := hl
  unfold wp_R_lengthBefore at h
  refine lv_iload_n hx hb dR_lengthBefore_0 rfl (lv_at hl 1 rfl) ?_
  refine lv_aload_n hx hb dR_lengthBefore_1 rfl (lv_at hl 0 rfl) ?_
  refine k_get (ci := 3) (C := R_R) (T := T_R) (N := 4) hx hb hts (fun w q => gG_in (inG_R w q)) hown hK hP 3 rfl rfl 1 (by decide) (hts _ (gG_in mw_94)) rfl dR_lengthBefore_2 ?_
  refine ki_mul hx hb dR_lengthBefore_5 ?_
  refine lv_aload_n hx hb dR_lengthBefore_6 rfl (lv_at hl 0 rfl) ?_
  refine k_get (ci := 3) (C := R_R) (T := T_R) (N := 4) hx hb hts (fun w q => gG_in (inG_R w q)) hown hK hP 3 rfl rfl 2 (by decide) (hts _ (gG_in mw_95)) rfl dR_lengthBefore_7 ?_
  refine lv_iload_n hx hb dR_lengthBefore_10 rfl (lv_at hl 1 rfl) ?_
  refine lv_iload_n hx hb dR_lengthBefore_11 rfl (lv_at hl 1 rfl) ?_
  refine lv_iconst (v := iI 1) hx hb dR_lengthBefore_12 rfl ?_
  refine ki_sub hx hb dR_lengthBefore_13 ?_
  refine ki_mul hx hb dR_lengthBefore_14 ?_
  refine lv_iconst (v := iI 2) hx hb dR_lengthBefore_15 rfl ?_
  obtain ⟨q1, h⟩ := h
  refine ki_div hx hb dR_lengthBefore_16 ⟨q1.1, by constructor <;> decide, q1.2, by decide⟩ ?_
  refine ki_mul hx hb dR_lengthBefore_17 ?_
  refine ki_sub hx hb dR_lengthBefore_18 ?_
  refine ki_nm (fun v1 ev1 => ?_)
  have h := h v1 ev1
  refine lv_istore_n (lv' := [(2, .int (iI v1)), (0, .ref (ad 3)), (1, .int (iI p0))]) hx hb dR_lengthBefore_19 rfl hl (by decide) rfl (fun ls hl => ?_)
  refine lv_iload_n hx hb dR_lengthBefore_20 rfl (lv_at hl 0 rfl) ?_
  obtain ⟨P1, g1, h⟩ := h
  refine kc_sp (As := [.int (iI v1)]) (rest := []) S (c_R_roundOf l dC dI (tyC kc) (wC ad kc nn) nn σ v1 g1) (cwS 1 hts (gS mw_505 mw_506 mw_5 k_R_roundOf) rfl rfl rfl (by decide +kernel) ⟨Nat.le_of_ble_eq_true rfl, Nat.le_of_ble_eq_true rfl⟩) hK hN hP rfl hl.1 rfl (Nat.le_of_ble_eq_true rfl) dR_lengthBefore_21 ⟨Nat.zero_le _, Nat.zero_le _⟩ (fun r1 hp => ?_)
  have h := h r1 hp
  exact k_iretP hx hb hr hlocks dR_lengthBefore_24 h
abbrev rm_P_before : Room := { frames := 6, cells := 0, slots := 0, locals := 82 }
set_option maxHeartbeats 4000000 in
set_option maxRecDepth 100000 in
theorem c_P_before (l : Launch) (dC : Nat → ClassId) (dI : Nat → Nat → Nat) (ad : Nat → Nat) (kc : Nat → ClassId) (nn : Nat → Nat) (σ : kM) (p0 : Int) {P : Int → kM → Prop} (h : wp_P_before nn σ p0 P (fun _ _ => False)) : kMi l y_P_before ws_P_before rm_P_before (dC, dI) vwC (tyC kc) (wC ad kc nn) nsG σ [.ref (ad 0), .int (iI p0)] P := by
  intro sz
  refine k_enter (cc := b_P_before) (maxL := 2) (ret := (some .int)) (by decide) rfl (Nat.le_of_ble_eq_true rfl) ?_
  intro p e s m below meth c ls S hr hlocks hsz hA hW hK hN hl
  generalize va_A ((wC ad kc nn) σ) sz = A at hA hW ⊢
  generalize ([.ref (ad 0), .int (iI p0)] : List Value).toArray = args at S ⊢
  obtain ⟨hx, hb, hml, hown, hts⟩ := id S
  have hl : lv_has ls 2 [(0, .ref (ad 0)), (1, .int (iI p0))] := hl
  unfold wp_P_before at h
  refine lv_aload_n hx hb dP_before_0 rfl (lv_at hl 0 rfl) ?_
  refine k_get (ci := 0) (C := R_P) (T := T_P) (N := 7) hx hb hts (fun w q => gG_in (inG_P w q)) hown hK hW.1 0 rfl rfl 2 (by decide) (hts _ (gG_in mw_200)) rfl dP_before_1 ?_
  obtain ⟨P1, g1, h⟩ := h
  refine kc_vp (As := []) (rest := []) (ci := 3) (q0 := 3) S (c_R_isPeeled l dC dI ad kc nn σ g1) (cwV 0 hts (gV mw_480 mw_481 mw_482 mw_5 k_R_isPeeled) rfl rfl rfl (by decide +kernel) ⟨Nat.le_of_ble_eq_true rfl, Nat.le_of_ble_eq_true rfl⟩) hK hN hW.1 rfl rfl rfl hl.1 rfl (Nat.le_of_ble_eq_true rfl) dP_before_4 ⟨Nat.zero_le _, Nat.zero_le _⟩ (fun r1 hp => ?_)
  have h := h r1 hp
  obtain ⟨q1, h⟩ := h
  obtain ⟨ht, hf⟩ := h
  refine ki_if_ne (tgt := 20) hx hb dP_before_7 (by decide) q1 (fun c1 => ?_) (fun c1 => ?_)
  · have h := ht c1
    refine lv_iload_n hx hb dP_before_20 rfl (lv_at hl 1 rfl) ?_
    refine lv_iconst (v := iI 0) hx hb dP_before_21 rfl ?_
    refine lv_aload_n hx hb dP_before_22 rfl (lv_at hl 0 rfl) ?_
    refine k_get (ci := 0) (C := R_P) (T := T_P) (N := 7) hx hb hts (fun w q => gG_in (inG_P w q)) hown hK hW.1 0 rfl rfl 2 (by decide) (hts _ (gG_in mw_200)) rfl dP_before_23 ?_
    refine kc_vp (As := []) (rest := [.int (iI 0), .int (iI p0)]) (ci := 3) (q0 := 3) S (c_R_turns l dC dI ad kc nn σ (P := fun r => (σ 3 3) = r) rfl) (cwV 0 hts (gV mw_468 mw_469 mw_470 mw_5 k_R_turns) rfl rfl rfl (by decide +kernel) ⟨Nat.le_of_ble_eq_true rfl, Nat.le_of_ble_eq_true rfl⟩) hK hN hW.1 rfl rfl rfl hl.1 rfl (Nat.le_of_ble_eq_true rfl) dP_before_26 ⟨Nat.zero_le _, Nat.zero_le _⟩ (fun r2 hp => ?_)
    subst hp
    obtain ⟨P2, g2, h⟩ := h
    refine kc_sp (As := [.int (iI p0), .int (iI 0), .int (iI (σ 3 3))]) (rest := []) S (c_P_isWithin l dC dI (tyC kc) (wC ad kc nn) nn σ p0 0 (σ 3 3) g2) (cwS 3 hts (gS mw_417 mw_270 mw_1 k_P_isWithin) rfl rfl rfl (by decide +kernel) ⟨Nat.le_of_ble_eq_true rfl, Nat.le_of_ble_eq_true rfl⟩) hK hN hW.1 rfl hl.1 rfl (Nat.le_of_ble_eq_true rfl) dP_before_29 ⟨Nat.zero_le _, Nat.zero_le _⟩ (fun r3 hp => ?_)
    have h := h r3 hp
    obtain ⟨q2, h⟩ := h
    obtain ⟨ht, hf⟩ := h
    refine ki_if_ne (tgt := 45) hx hb dP_before_32 (by decide) q2 (fun c2 => ?_) (fun c2 => ?_)
    · have h := ht c2
      refine lv_aload_n hx hb dP_before_45 rfl (lv_at hl 0 rfl) ?_
      refine k_get (ci := 0) (C := R_P) (T := T_P) (N := 7) hx hb hts (fun w q => gG_in (inG_P w q)) hown hK hW.1 0 rfl rfl 2 (by decide) (hts _ (gG_in mw_200)) rfl dP_before_46 ?_
      refine lv_iload_n hx hb dP_before_49 rfl (lv_at hl 1 rfl) ?_
      obtain ⟨P3, g3, h⟩ := h
      refine kc_vp (As := [.int (iI p0)]) (rest := []) (ci := 3) (q0 := 3) S (c_R_lengthBefore l dC dI ad kc nn σ p0 g3) (cwV 1 hts (gV mw_501 mw_502 mw_503 mw_5 k_R_lengthBefore) rfl rfl rfl (by decide +kernel) ⟨Nat.le_of_ble_eq_true rfl, Nat.le_of_ble_eq_true rfl⟩) hK hN hW.1 rfl rfl rfl hl.1 rfl (Nat.le_of_ble_eq_true rfl) dP_before_50 ⟨Nat.zero_le _, Nat.zero_le _⟩ (fun r4 hp => ?_)
      have h := h r4 hp
      exact k_iret hx hb hr hlocks hW dP_before_53 h
    · have h := hf c2
      exact False.elim h
  · have h := hf c1
    exact False.elim h
abbrev rm_P_isKind : Room := { frames := 1, cells := 0, slots := 0, locals := 22 }
set_option maxHeartbeats 4000000 in
set_option maxRecDepth 100000 in
theorem c_P_isKind (l : Launch) (dC : Nat → ClassId) (dI : Nat → Nat → Nat) (tys : List (ClassId × FieldType)) (w : kM → va_W) (nn : Nat → Nat) (σ : kM) (p0 : Int) {P : Int → Prop} (h : wp_P_isKind nn σ p0 P) : kMp l y_P_isKind ws_P_isKind rm_P_isKind (dC, dI) vwC tys w nsG σ [.int (iI p0)] P := by
  refine k_enterP (cc := b_P_isKind) (maxL := 1) (ret := (some .boolean)) (by decide) rfl (Nat.le_of_ble_eq_true rfl) ?_
  intro p e s m below meth c ls S hr hlocks hP hK hN hl
  generalize ([.int (iI p0)] : List Value).toArray = args at S ⊢
  obtain ⟨hx, hb, hml, hown, hts⟩ := id S
  have hl : lv_has ls 1 [(0, .int (iI p0))] := hl
  unfold wp_P_isKind at h
  refine lv_iload_n hx hb dP_isKind_0 rfl (lv_at hl 0 rfl) ?_
  refine lv_iconst (v := iI 0) hx hb dP_isKind_1 rfl ?_
  refine lv_iconst (v := iI 3) hx hb dP_isKind_2 rfl ?_
  obtain ⟨P1, g1, h⟩ := h
  refine kc_sp (As := [.int (iI p0), .int (iI 0), .int (iI 3)]) (rest := []) S (c_P_isWithin l dC dI tys w nn σ p0 0 3 g1) (cwS 3 hts (gS mw_417 mw_270 mw_1 k_P_isWithin) rfl rfl rfl (by decide +kernel) ⟨Nat.le_of_ble_eq_true rfl, Nat.le_of_ble_eq_true rfl⟩) hK hN hP rfl hl.1 rfl (Nat.le_of_ble_eq_true rfl) dP_isKind_3 ⟨Nat.zero_le _, Nat.zero_le _⟩ (fun r1 hp => ?_)
  have h := h r1 hp
  exact k_zretP hx hb hr hlocks dP_isKind_6 h.1 h.2
abbrev rm_F_isFull : Room := { frames := 0, cells := 0, slots := 0, locals := 0 }
set_option maxHeartbeats 4000000 in
set_option maxRecDepth 100000 in
theorem c_F_isFull (l : Launch) (dC : Nat → ClassId) (dI : Nat → Nat → Nat) (ad : Nat → Nat) (kc : Nat → ClassId) (nn : Nat → Nat) (σ : kM) {P : Int → Prop} (h : wp_F_isFull nn σ P) : kMp l y_F_isFull ws_F_isFull rm_F_isFull (dC, dI) vwC (tyC kc) (wC ad kc nn) nsG σ [.ref (ad 4)] P := by
  refine k_enterP (cc := b_F_isFull) (maxL := 1) (ret := (some .boolean)) (by decide) rfl (Nat.le_of_ble_eq_true rfl) ?_
  intro p e s m below meth c ls S hr hlocks hP hK hN hl
  generalize ([.ref (ad 4)] : List Value).toArray = args at S ⊢
  obtain ⟨hx, hb, hml, hown, hts⟩ := id S
  have hl : lv_has ls 1 [(0, .ref (ad 4))] := hl
  unfold wp_F_isFull at h
  refine lv_aload_n hx hb dF_isFull_0 rfl (lv_at hl 0 rfl) ?_
  refine k_get (ci := 4) (C := R_F) (T := T_F) (N := 4) hx hb hts (fun w q => gG_in (inG_F w q)) hown hK hP 4 rfl rfl 3 (by decide) (hts _ (gG_in mw_115)) rfl dF_isFull_1 ?_
  refine lv_bipush (v := iI 16) hx hb dF_isFull_4 (by decide) ?_
  obtain ⟨q1, h⟩ := h
  obtain ⟨ht, hf⟩ := h
  refine ki_icmp_lt (tgt := 13) hx hb dF_isFull_6 (by decide) q1 (by constructor <;> decide) (fun c1 => ?_) (fun c1 => ?_)
  · have h := ht c1
    refine lv_iconst (v := iI 0) hx hb dF_isFull_13 rfl ?_
    exact k_zretP hx hb hr hlocks dF_isFull_14 (by decide) h
  · have h := hf c1
    refine lv_iconst (v := iI 1) hx hb dF_isFull_9 rfl ?_
    refine lv_goto (tgt := 14) hx hb dF_isFull_10 (by decide) ?_
    exact k_zretP hx hb hr hlocks dF_isFull_14 (by decide) h
abbrev rm_F_add : Room := { frames := 0, cells := 0, slots := 0, locals := 0 }
set_option maxHeartbeats 4000000 in
set_option maxRecDepth 100000 in
theorem c_F_add (l : Launch) (dC : Nat → ClassId) (dI : Nat → Nat → Nat) (ad : Nat → Nat) (kc : Nat → ClassId) (nn : Nat → Nat) (σ : kM) (p0 : Int) (p1 : Int) (p2 : Int) {P : Int → kM → Prop} (h : wp_F_add nn σ p0 p1 p2 P) : kMi l y_F_add ws_F_add rm_F_add (dC, dI) vwC (tyC kc) (wC ad kc nn) nsG σ [.ref (ad 4), .int (iI p0), .int (iI p1), .int (iI p2)] P := by
  intro sz
  refine k_enter (cc := b_F_add) (maxL := 4) (ret := (some .int)) (by decide) rfl (Nat.le_of_ble_eq_true rfl) ?_
  intro p e s m below meth c ls S hr hlocks hsz hA hW hK hN hl
  generalize va_A ((wC ad kc nn) σ) sz = A at hA hW ⊢
  generalize ([.ref (ad 4), .int (iI p0), .int (iI p1), .int (iI p2)] : List Value).toArray = args at S ⊢
  obtain ⟨hx, hb, hml, hown, hts⟩ := id S
  have hl : lv_has ls 4 [(0, .ref (ad 4)), (1, .int (iI p0)), (2, .int (iI p1)), (3, .int (iI p2))] := hl
  unfold wp_F_add at h
  refine lv_aload_n hx hb dF_add_0 rfl (lv_at hl 0 rfl) ?_
  refine k_get (ci := 4) (C := R_F) (T := T_F) (N := 4) hx hb hts (fun w q => gG_in (inG_F w q)) hown hK hW.1 4 rfl rfl 0 (by decide) (hts _ (gG_in mw_112)) rfl dF_add_1 ?_
  refine lv_aload_n hx hb dF_add_4 rfl (lv_at hl 0 rfl) ?_
  refine k_get (ci := 4) (C := R_F) (T := T_F) (N := 4) hx hb hts (fun w q => gG_in (inG_F w q)) hown hK hW.1 4 rfl rfl 3 (by decide) (hts _ (gG_in mw_115)) rfl dF_add_5 ?_
  refine lv_iload_n hx hb dF_add_8 rfl (lv_at hl 1 rfl) ?_
  obtain ⟨q1, h⟩ := h
  obtain ⟨s1, es1⟩ : ∃ z : kM, z = va_up σ 13 (va_up (σ 13) (σ 4 3).toNat p0) := ⟨_, rfl⟩
  refine k_iast (ws' := wC ad kc nn s1) hx hb hK hW 13 5 (σ 13) rfl rfl q1 (by rw [es1]; exact wC_a13 ..) dF_add_9 (fun H locs hW => ?_)
  have h := h s1 es1
  refine lv_aload_n hx hb dF_add_10 rfl (lv_at hl 0 rfl) ?_
  refine k_get (ci := 4) (C := R_F) (T := T_F) (N := 4) hx hb hts (fun w q => gG_in (inG_F w q)) hown hK hW.1 4 rfl rfl 1 (by decide) (hts _ (gG_in mw_113)) rfl dF_add_11 ?_
  refine lv_aload_n hx hb dF_add_14 rfl (lv_at hl 0 rfl) ?_
  refine k_get (ci := 4) (C := R_F) (T := T_F) (N := 4) hx hb hts (fun w q => gG_in (inG_F w q)) hown hK hW.1 4 rfl rfl 3 (by decide) (hts _ (gG_in mw_115)) rfl dF_add_15 ?_
  refine lv_iload_n hx hb dF_add_18 rfl (lv_at hl 2 rfl) ?_
  obtain ⟨q2, h⟩ := h
  obtain ⟨s2, es2⟩ : ∃ z : kM, z = va_up s1 14 (va_up (s1 14) (s1 4 3).toNat p1) := ⟨_, rfl⟩
  refine k_iast (ws' := wC ad kc nn s2) hx hb hK hW 14 6 (s1 14) rfl rfl q2 (by rw [es2]; exact wC_a14 ..) dF_add_19 (fun H locs hW => ?_)
  have h := h s2 es2
  refine lv_aload_n hx hb dF_add_20 rfl (lv_at hl 0 rfl) ?_
  refine k_get (ci := 4) (C := R_F) (T := T_F) (N := 4) hx hb hts (fun w q => gG_in (inG_F w q)) hown hK hW.1 4 rfl rfl 2 (by decide) (hts _ (gG_in mw_114)) rfl dF_add_21 ?_
  refine lv_aload_n hx hb dF_add_24 rfl (lv_at hl 0 rfl) ?_
  refine k_get (ci := 4) (C := R_F) (T := T_F) (N := 4) hx hb hts (fun w q => gG_in (inG_F w q)) hown hK hW.1 4 rfl rfl 3 (by decide) (hts _ (gG_in mw_115)) rfl dF_add_25 ?_
  refine lv_iload_n hx hb dF_add_28 rfl (lv_at hl 3 rfl) ?_
  obtain ⟨q3, h⟩ := h
  obtain ⟨s3, es3⟩ : ∃ z : kM, z = va_up s2 15 (va_up (s2 15) (s2 4 3).toNat p2) := ⟨_, rfl⟩
  refine k_iast (ws' := wC ad kc nn s3) hx hb hK hW 15 7 (s2 15) rfl rfl q3 (by rw [es3]; exact wC_a15 ..) dF_add_29 (fun H locs hW => ?_)
  have h := h s3 es3
  refine lv_aload_n hx hb dF_add_30 rfl (lv_at hl 0 rfl) ?_
  refine lv_dup hx hb dF_add_31 rfl ?_
  refine k_get (ci := 4) (C := R_F) (T := T_F) (N := 4) hx hb hts (fun w q => gG_in (inG_F w q)) hown hK hW.1 4 rfl rfl 3 (by decide) (hts _ (gG_in mw_115)) rfl dF_add_32 ?_
  refine lv_iconst (v := iI 1) hx hb dF_add_35 rfl ?_
  refine ki_add hx hb dF_add_36 ?_
  obtain ⟨s4, es4⟩ : ∃ z : kM, z = va_up s3 4 (va_up (s3 4) 3 ((s3 4 3) + 1)) := ⟨_, rfl⟩
  refine k_put (ty := .int) (ws' := wC ad kc nn s4) (ci := 4) (C := R_F) (T := T_F) (N := 4) hx hb hts (fun w q => gG_in (inG_F w q)) ty_F tk_F nm_F hown hK hW 4 rfl rfl 3 (by decide) (hts _ (gG_in mw_115)) rfl (by decide +kernel) rfl rfl (Nat.le_of_ble_eq_true rfl) (by rw [es4]; exact wC_p4_3 ..) dF_add_37 (fun H locs hW => ?_)
  have h := h s4 es4
  refine lv_aload_n hx hb dF_add_40 rfl (lv_at hl 0 rfl) ?_
  refine k_get (ci := 4) (C := R_F) (T := T_F) (N := 4) hx hb hts (fun w q => gG_in (inG_F w q)) hown hK hW.1 4 rfl rfl 3 (by decide) (hts _ (gG_in mw_115)) rfl dF_add_41 ?_
  refine lv_iconst (v := iI 1) hx hb dF_add_44 rfl ?_
  refine ki_sub hx hb dF_add_45 ?_
  exact k_iret hx hb hr hlocks hW dF_add_46 h
abbrev rm_P_fault : Room := { frames := 6, cells := 0, slots := 0, locals := 82 }
set_option maxHeartbeats 4000000 in
set_option maxRecDepth 100000 in
theorem c_P_fault (l : Launch) (dC : Nat → ClassId) (dI : Nat → Nat → Nat) (ad : Nat → Nat) (kc : Nat → ClassId) (nn : Nat → Nat) (σ : kM) (p0 : Int) (p1 : Int) (p2 : Int) {P : Int → kM → Prop} (h : wp_P_fault nn σ p0 p1 p2 P (fun _ _ => False)) : kMi l y_P_fault ws_P_fault rm_P_fault (dC, dI) vwC (tyC kc) (wC ad kc nn) nsG σ [.ref (ad 0), .int (iI p0), .int (iI p1), .int (iI p2)] P := by
  intro sz
  refine k_enter (cc := b_P_fault) (maxL := 4) (ret := (some .int)) (by decide) rfl (Nat.le_of_ble_eq_true rfl) ?_
  intro p e s m below meth c ls S hr hlocks hsz hA hW hK hN hl
  generalize va_A ((wC ad kc nn) σ) sz = A at hA hW ⊢
  generalize ([.ref (ad 0), .int (iI p0), .int (iI p1), .int (iI p2)] : List Value).toArray = args at S ⊢
  obtain ⟨hx, hb, hml, hown, hts⟩ := id S
  have hl : lv_has ls 4 [(0, .ref (ad 0)), (1, .int (iI p0)), (2, .int (iI p1)), (3, .int (iI p2))] := hl
  unfold wp_P_fault at h
  refine lv_iload_n hx hb dP_fault_0 rfl (lv_at hl 1 rfl) ?_
  refine lv_iconst (v := iI 0) hx hb dP_fault_1 rfl ?_
  refine lv_sipush (v := iI 359) hx hb dP_fault_2 (by decide) ?_
  obtain ⟨P1, g1, h⟩ := h
  refine kc_sp (As := [.int (iI p0), .int (iI 0), .int (iI 359)]) (rest := []) S (c_P_isWithin l dC dI (tyC kc) (wC ad kc nn) nn σ p0 0 359 g1) (cwS 3 hts (gS mw_417 mw_270 mw_1 k_P_isWithin) rfl rfl rfl (by decide +kernel) ⟨Nat.le_of_ble_eq_true rfl, Nat.le_of_ble_eq_true rfl⟩) hK hN hW.1 rfl hl.1 rfl (Nat.le_of_ble_eq_true rfl) dP_fault_5 ⟨Nat.zero_le _, Nat.zero_le _⟩ (fun r1 hp => ?_)
  have h := h r1 hp
  obtain ⟨q1, h⟩ := h
  obtain ⟨ht, hf⟩ := h
  refine ki_if_eq (tgt := 29) hx hb dP_fault_8 (by decide) q1 (fun c1 => ?_) (fun c1 => ?_)
  · have h := ht c1
    exact False.elim h
  · have h := hf c1
    refine lv_iload_n hx hb dP_fault_11 rfl (lv_at hl 2 rfl) ?_
    refine lv_iconst (v := iI 0) hx hb dP_fault_12 rfl ?_
    refine lv_sipush (v := iI 1000) hx hb dP_fault_13 (by decide) ?_
    obtain ⟨P2, g2, h⟩ := h
    refine kc_sp (As := [.int (iI p1), .int (iI 0), .int (iI 1000)]) (rest := []) S (c_P_isWithin l dC dI (tyC kc) (wC ad kc nn) nn σ p1 0 1000 g2) (cwS 3 hts (gS mw_417 mw_270 mw_1 k_P_isWithin) rfl rfl rfl (by decide +kernel) ⟨Nat.le_of_ble_eq_true rfl, Nat.le_of_ble_eq_true rfl⟩) hK hN hW.1 rfl hl.1 rfl (Nat.le_of_ble_eq_true rfl) dP_fault_16 ⟨Nat.zero_le _, Nat.zero_le _⟩ (fun r2 hp => ?_)
    have h := h r2 hp
    obtain ⟨q2, h⟩ := h
    obtain ⟨ht, hf⟩ := h
    refine ki_if_eq (tgt := 29) hx hb dP_fault_19 (by decide) q2 (fun c2 => ?_) (fun c2 => ?_)
    · have h := ht c2
      exact False.elim h
    · have h := hf c2
      refine lv_iload_n hx hb dP_fault_22 rfl (lv_at hl 3 rfl) ?_
      obtain ⟨P3, g3, h⟩ := h
      refine kc_sp (As := [.int (iI p2)]) (rest := []) S (c_P_isKind l dC dI (tyC kc) (wC ad kc nn) nn σ p2 g3) (cwS 1 hts (gS mw_515 mw_516 mw_1 k_P_isKind) rfl rfl rfl (by decide +kernel) ⟨Nat.le_of_ble_eq_true rfl, Nat.le_of_ble_eq_true rfl⟩) hK hN hW.1 rfl hl.1 rfl (Nat.le_of_ble_eq_true rfl) dP_fault_23 ⟨Nat.zero_le _, Nat.zero_le _⟩ (fun r3 hp => ?_)
      have h := h r3 hp
      obtain ⟨q3, h⟩ := h
      obtain ⟨ht, hf⟩ := h
      refine ki_if_ne (tgt := 39) hx hb dP_fault_26 (by decide) q3 (fun c3 => ?_) (fun c3 => ?_)
      · have h := ht c3
        refine lv_aload_n hx hb dP_fault_39 rfl (lv_at hl 0 rfl) ?_
        refine k_get (ci := 0) (C := R_P) (T := T_P) (N := 7) hx hb hts (fun w q => gG_in (inG_P w q)) hown hK hW.1 0 rfl rfl 3 (by decide) (hts _ (gG_in mw_201)) rfl dP_fault_40 ?_
        obtain ⟨P4, g4, h⟩ := h
        refine kc_vp (As := []) (rest := []) (ci := 4) (q0 := 4) S (c_F_isFull l dC dI ad kc nn σ g4) (cwV 0 hts (gV mw_519 mw_520 mw_521 mw_6 k_F_isFull) rfl rfl rfl (by decide +kernel) ⟨Nat.le_of_ble_eq_true rfl, Nat.le_of_ble_eq_true rfl⟩) hK hN hW.1 rfl rfl rfl hl.1 rfl (Nat.le_of_ble_eq_true rfl) dP_fault_43 ⟨Nat.zero_le _, Nat.zero_le _⟩ (fun r4 hp => ?_)
        have h := h r4 hp
        obtain ⟨q4, h⟩ := h
        obtain ⟨ht, hf⟩ := h
        refine ki_if_eq (tgt := 59) hx hb dP_fault_46 (by decide) q4 (fun c4 => ?_) (fun c4 => ?_)
        · have h := ht c4
          refine lv_aload_n hx hb dP_fault_59 rfl (lv_at hl 0 rfl) ?_
          refine k_get (ci := 0) (C := R_P) (T := T_P) (N := 7) hx hb hts (fun w q => gG_in (inG_P w q)) hown hK hW.1 0 rfl rfl 5 (by decide) (hts _ (gG_in mw_203)) rfl dP_fault_60 ?_
          obtain ⟨P5, g5, h⟩ := h
          refine kc_vv (As := []) (rest := []) (ci := 6) (q0 := 6) S (c_C_forget l dC dI ad kc nn σ g5) (cwV 0 hts (gV mw_406 mw_407 mw_408 mw_8 k_C_forget) rfl rfl rfl (by decide +kernel) ⟨Nat.le_of_ble_eq_true rfl, Nat.le_of_ble_eq_true rfl⟩) hK hN hA hW (fun _ => rfl) rfl rfl rfl hl.1 rfl (Nat.le_of_ble_eq_true rfl) dP_fault_63 ⟨Nat.zero_le _, Nat.zero_le _⟩ (fun s1 H locs hp hW => ?_)
          have h := h s1 hp
          refine lv_aload_n hx hb dP_fault_66 rfl (lv_at hl 0 rfl) ?_
          refine k_get (ci := 0) (C := R_P) (T := T_P) (N := 7) hx hb hts (fun w q => gG_in (inG_P w q)) hown hK hW.1 0 rfl rfl 3 (by decide) (hts _ (gG_in mw_201)) rfl dP_fault_67 ?_
          refine lv_iload_n hx hb dP_fault_70 rfl (lv_at hl 1 rfl) ?_
          refine lv_iload_n hx hb dP_fault_71 rfl (lv_at hl 2 rfl) ?_
          refine lv_iload_n hx hb dP_fault_72 rfl (lv_at hl 3 rfl) ?_
          obtain ⟨P6, g6, h⟩ := h
          refine kc_vi (As := [.int (iI p0), .int (iI p1), .int (iI p2)]) (rest := []) (ci := 4) (q0 := 4) S (c_F_add l dC dI ad kc nn s1 p0 p1 p2 g6) (cwV 3 hts (gV mw_524 mw_525 mw_526 mw_6 k_F_add) rfl rfl rfl (by decide +kernel) ⟨Nat.le_of_ble_eq_true rfl, Nat.le_of_ble_eq_true rfl⟩) hK hN hA hW (fun _ => rfl) rfl rfl rfl hl.1 rfl (Nat.le_of_ble_eq_true rfl) dP_fault_73 ⟨Nat.zero_le _, Nat.zero_le _⟩ (fun r5 s2 H locs hp hW => ?_)
          have h := h r5 s2 hp
          exact k_iret hx hb hr hlocks hW dP_fault_76 h
        · have h := hf c4
          exact False.elim h
      · have h := hf c3
        exact False.elim h
abbrev rm_F_has : Room := { frames := 1, cells := 0, slots := 0, locals := 22 }
set_option maxHeartbeats 4000000 in
set_option maxRecDepth 100000 in
theorem c_F_has (l : Launch) (dC : Nat → ClassId) (dI : Nat → Nat → Nat) (ad : Nat → Nat) (kc : Nat → ClassId) (nn : Nat → Nat) (σ : kM) (p0 : Int) {P : Int → Prop} (h : wp_F_has nn σ p0 P) : kMp l y_F_has ws_F_has rm_F_has (dC, dI) vwC (tyC kc) (wC ad kc nn) nsG σ [.ref (ad 4), .int (iI p0)] P := by
  refine k_enterP (cc := b_F_has) (maxL := 2) (ret := (some .boolean)) (by decide) rfl (Nat.le_of_ble_eq_true rfl) ?_
  intro p e s m below meth c ls S hr hlocks hP hK hN hl
  generalize ([.ref (ad 4), .int (iI p0)] : List Value).toArray = args at S ⊢
  obtain ⟨hx, hb, hml, hown, hts⟩ := id S
  have hl : lv_has ls 2 [(0, .ref (ad 4)), (1, .int (iI p0))] := hl
  unfold wp_F_has at h
  refine lv_iload_n hx hb dF_has_0 rfl (lv_at hl 1 rfl) ?_
  refine lv_iconst (v := iI 0) hx hb dF_has_1 rfl ?_
  refine lv_aload_n hx hb dF_has_2 rfl (lv_at hl 0 rfl) ?_
  refine k_get (ci := 4) (C := R_F) (T := T_F) (N := 4) hx hb hts (fun w q => gG_in (inG_F w q)) hown hK hP 4 rfl rfl 3 (by decide) (hts _ (gG_in mw_115)) rfl dF_has_3 ?_
  refine lv_iconst (v := iI 1) hx hb dF_has_6 rfl ?_
  refine ki_sub hx hb dF_has_7 ?_
  obtain ⟨P1, g1, h⟩ := h
  refine kc_np (As := [.int (iI p0), .int (iI 0), .int (iI ((σ 4 3) - 1))]) (rest := []) S (c_P_isWithin l dC dI (tyC kc) (wC ad kc nn) nn σ p0 0 ((σ 4 3) - 1) g1) ⟨va_cnB 3 hts (gG_good k_P_isWithin) rfl rfl rfl (hN _ (List.mem_of_getElem? (i := 6) rfl)) (hts _ (gG_in mw_1)) (by decide +kernel) ⟨Nat.le_of_ble_eq_true rfl, Nat.le_of_ble_eq_true rfl⟩, hts _ (gG_in mw_270), trivial⟩ hK hN hP rfl hl.1 rfl (Nat.le_of_ble_eq_true rfl) dF_has_8 ⟨Nat.zero_le _, Nat.zero_le _⟩ (fun r1 hp => ?_)
  have h := h r1 hp
  exact k_zretP hx hb hr hlocks dF_has_11 h.1 h.2
abbrev rm_R_placeOf : Room := { frames := 2, cells := 0, slots := 0, locals := 42 }
set_option maxHeartbeats 4000000 in
set_option maxRecDepth 100000 in
theorem c_R_placeOf (l : Launch) (dC : Nat → ClassId) (dI : Nat → Nat → Nat) (ad : Nat → Nat) (kc : Nat → ClassId) (nn : Nat → Nat) (σ : kM) (p0 : Int) (p1 : Int) {P : Int → Prop} (h : wp_R_placeOf nn σ p0 p1 P) : kMp l y_R_placeOf ws_R_placeOf rm_R_placeOf (dC, dI) vwC (tyC kc) (wC ad kc nn) nsG σ [.ref (ad 3), .int (iI p0), .int (iI p1)] P := by
  refine k_enterP (cc := b_R_placeOf) (maxL := 4) (ret := (some .int)) (by decide) rfl (Nat.le_of_ble_eq_true rfl) ?_
  intro p e s m below meth c ls S hr hlocks hP hK hN hl
  generalize ([.ref (ad 3), .int (iI p0), .int (iI p1)] : List Value).toArray = args at S ⊢
  obtain ⟨hx, hb, hml, hown, hts⟩ := id S
  have hl : lv_has ls 4 [(0, .ref (ad 3)), (1, .int (iI p0)), (2, .int (iI p1))] := hl
  unfold wp_R_placeOf at h
  refine lv_iload_n hx hb dR_placeOf_0 rfl (lv_at hl 2 rfl) ?_
  refine lv_aload_n hx hb dR_placeOf_1 rfl (lv_at hl 0 rfl) ?_
  refine k_get (ci := 3) (C := R_R) (T := T_R) (N := 4) hx hb hts (fun w q => gG_in (inG_R w q)) hown hK hP 3 rfl rfl 1 (by decide) (hts _ (gG_in mw_94)) rfl dR_placeOf_2 ?_
  obtain ⟨q1, h⟩ := h
  obtain ⟨q2, h⟩ := h
  obtain ⟨ht, hf⟩ := h
  refine ki_icmp_gt (tgt := 26) hx hb dR_placeOf_5 (by decide) q1 q2 (fun c1 => ?_) (fun c1 => ?_)
  · have h := ht c1
    refine lv_iconst (v := iI (-1)) hx hb dR_placeOf_26 rfl ?_
    exact k_iretP hx hb hr hlocks dR_placeOf_27 h
  · have h := hf c1
    refine lv_iload_n hx hb dR_placeOf_8 rfl (lv_at hl 2 rfl) ?_
    refine lv_aload_n hx hb dR_placeOf_9 rfl (lv_at hl 0 rfl) ?_
    refine k_get (ci := 3) (C := R_R) (T := T_R) (N := 4) hx hb hts (fun w q => gG_in (inG_R w q)) hown hK hP 3 rfl rfl 1 (by decide) (hts _ (gG_in mw_94)) rfl dR_placeOf_10 ?_
    refine lv_aload_n hx hb dR_placeOf_13 rfl (lv_at hl 0 rfl) ?_
    refine k_get (ci := 3) (C := R_R) (T := T_R) (N := 4) hx hb hts (fun w q => gG_in (inG_R w q)) hown hK hP 3 rfl rfl 3 (by decide) (hts _ (gG_in mw_96)) rfl dR_placeOf_14 ?_
    refine lv_aload_n hx hb dR_placeOf_17 rfl (lv_at hl 0 rfl) ?_
    refine k_get (ci := 3) (C := R_R) (T := T_R) (N := 4) hx hb hts (fun w q => gG_in (inG_R w q)) hown hK hP 3 rfl rfl 2 (by decide) (hts _ (gG_in mw_95)) rfl dR_placeOf_18 ?_
    refine ki_mul hx hb dR_placeOf_21 ?_
    refine ki_sub hx hb dR_placeOf_22 ?_
    obtain ⟨q3, h⟩ := h
    obtain ⟨q4, h⟩ := h
    obtain ⟨ht, hf⟩ := h
    refine ki_icmp_gt (tgt := 28) hx hb dR_placeOf_23 (by decide) q3 q4 (fun c2 => ?_) (fun c2 => ?_)
    · have h := ht c2
      refine lv_aload_n hx hb dR_placeOf_28 rfl (lv_at hl 0 rfl) ?_
      refine k_get (ci := 3) (C := R_R) (T := T_R) (N := 4) hx hb hts (fun w q => gG_in (inG_R w q)) hown hK hP 3 rfl rfl 1 (by decide) (hts _ (gG_in mw_94)) rfl dR_placeOf_29 ?_
      refine lv_iload_n hx hb dR_placeOf_32 rfl (lv_at hl 2 rfl) ?_
      refine ki_sub hx hb dR_placeOf_33 ?_
      refine lv_aload_n hx hb dR_placeOf_34 rfl (lv_at hl 0 rfl) ?_
      refine k_get (ci := 3) (C := R_R) (T := T_R) (N := 4) hx hb hts (fun w q => gG_in (inG_R w q)) hown hK hP 3 rfl rfl 2 (by decide) (hts _ (gG_in mw_95)) rfl dR_placeOf_35 ?_
      obtain ⟨q5, h⟩ := h
      refine ki_div hx hb dR_placeOf_38 q5 ?_
      refine ki_nm (fun v1 ev1 => ?_)
      have h := h v1 ev1
      refine lv_istore_n (lv' := [(3, .int (iI v1)), (0, .ref (ad 3)), (1, .int (iI p0)), (2, .int (iI p1))]) hx hb dR_placeOf_39 rfl hl (by decide) rfl (fun ls hl => ?_)
      refine lv_aload_n hx hb dR_placeOf_40 rfl (lv_at hl 1 rfl) ?_
      refine lv_iload_n hx hb dR_placeOf_41 rfl (lv_at hl 0 rfl) ?_
      obtain ⟨P1, g1, h⟩ := h
      refine kc_vp (As := [.int (iI v1)]) (rest := []) (ci := 3) (q0 := 3) S (c_R_lengthBefore l dC dI ad kc nn σ v1 g1) (cwV 1 hts (gV mw_549 mw_502 mw_503 mw_5 k_R_lengthBefore) rfl rfl rfl (by decide +kernel) ⟨Nat.le_of_ble_eq_true rfl, Nat.le_of_ble_eq_true rfl⟩) hK hN hP rfl rfl rfl hl.1 rfl (Nat.le_of_ble_eq_true rfl) dR_placeOf_42 ⟨Nat.zero_le _, Nat.zero_le _⟩ (fun r1 hp => ?_)
      have h := h r1 hp
      refine lv_aload_n hx hb dR_placeOf_45 rfl (lv_at hl 1 rfl) ?_
      refine k_get (ci := 3) (C := R_R) (T := T_R) (N := 4) hx hb hts (fun w q => gG_in (inG_R w q)) hown hK hP 3 rfl rfl 1 (by decide) (hts _ (gG_in mw_94)) rfl dR_placeOf_46 ?_
      refine lv_iload_n hx hb dR_placeOf_49 rfl (lv_at hl 0 rfl) ?_
      refine lv_aload_n hx hb dR_placeOf_50 rfl (lv_at hl 1 rfl) ?_
      refine k_get (ci := 3) (C := R_R) (T := T_R) (N := 4) hx hb hts (fun w q => gG_in (inG_R w q)) hown hK hP 3 rfl rfl 2 (by decide) (hts _ (gG_in mw_95)) rfl dR_placeOf_51 ?_
      refine ki_mul hx hb dR_placeOf_54 ?_
      refine ki_sub hx hb dR_placeOf_55 ?_
      obtain ⟨P2, g2, h⟩ := h
      refine kc_sp (As := [.int (iI ((σ 3 1) - (v1 * (σ 3 2))))]) (rest := [.int (iI r1)]) S (c_R_roundOf l dC dI (tyC kc) (wC ad kc nn) nn σ ((σ 3 1) - (v1 * (σ 3 2))) g2) (cwS 1 hts (gS mw_505 mw_506 mw_5 k_R_roundOf) rfl rfl rfl (by decide +kernel) ⟨Nat.le_of_ble_eq_true rfl, Nat.le_of_ble_eq_true rfl⟩) hK hN hP rfl hl.1 rfl (Nat.le_of_ble_eq_true rfl) dR_placeOf_56 ⟨Nat.zero_le _, Nat.zero_le _⟩ (fun r2 hp => ?_)
      have h := h r2 hp
      refine lv_iload_n hx hb dR_placeOf_59 rfl (lv_at hl 2 rfl) ?_
      refine ki_mul hx hb dR_placeOf_60 ?_
      refine lv_sipush (v := iI 360) hx hb dR_placeOf_61 (by decide) ?_
      obtain ⟨q6, h⟩ := h
      refine ki_div hx hb dR_placeOf_64 ⟨q6.1, by constructor <;> decide, q6.2, by decide⟩ ?_
      refine ki_add hx hb dR_placeOf_65 ?_
      exact k_iretP hx hb hr hlocks dR_placeOf_66 h
    · have h := hf c2
      refine lv_iconst (v := iI (-1)) hx hb dR_placeOf_26 rfl ?_
      exact k_iretP hx hb hr hlocks dR_placeOf_27 h
abbrev rm_F_placeIn : Room := { frames := 3, cells := 0, slots := 0, locals := 65 }
set_option maxHeartbeats 4000000 in
set_option maxRecDepth 100000 in
theorem c_F_placeIn (l : Launch) (dC : Nat → ClassId) (dI : Nat → Nat → Nat) (ad : Nat → Nat) (kc : Nat → ClassId) (nn : Nat → Nat) (σ : kM) (p1 : Int) {P : Int → Prop} (h : wp_F_placeIn nn σ p1 P) : kMp l y_F_placeIn ws_F_placeIn rm_F_placeIn (dC, dI) vwC (tyC kc) (wC ad kc nn) nsG σ [.ref (ad 4), .ref (ad 3), .int (iI p1)] P := by
  refine k_enterP (cc := b_F_placeIn) (maxL := 3) (ret := (some .int)) (by decide) rfl (Nat.le_of_ble_eq_true rfl) ?_
  intro p e s m below meth c ls S hr hlocks hP hK hN hl
  generalize ([.ref (ad 4), .ref (ad 3), .int (iI p1)] : List Value).toArray = args at S ⊢
  obtain ⟨hx, hb, hml, hown, hts⟩ := id S
  have hl : lv_has ls 3 [(0, .ref (ad 4)), (1, .ref (ad 3)), (2, .int (iI p1))] := hl
  unfold wp_F_placeIn at h
  refine lv_aload_n hx hb dF_placeIn_0 rfl (lv_at hl 1 rfl) ?_
  refine lv_aload_n hx hb dF_placeIn_1 rfl (lv_at hl 0 rfl) ?_
  refine k_get (ci := 4) (C := R_F) (T := T_F) (N := 4) hx hb hts (fun w q => gG_in (inG_F w q)) hown hK hP 4 rfl rfl 0 (by decide) (hts _ (gG_in mw_112)) rfl dF_placeIn_2 ?_
  refine lv_iload_n hx hb dF_placeIn_5 rfl (lv_at hl 2 rfl) ?_
  obtain ⟨q1, h⟩ := h
  refine k_iald hx hb hK hP 13 5 (σ 13) rfl rfl q1 dF_placeIn_6 ?_
  refine lv_aload_n hx hb dF_placeIn_7 rfl (lv_at hl 0 rfl) ?_
  refine k_get (ci := 4) (C := R_F) (T := T_F) (N := 4) hx hb hts (fun w q => gG_in (inG_F w q)) hown hK hP 4 rfl rfl 1 (by decide) (hts _ (gG_in mw_113)) rfl dF_placeIn_8 ?_
  refine lv_iload_n hx hb dF_placeIn_11 rfl (lv_at hl 2 rfl) ?_
  obtain ⟨q2, h⟩ := h
  refine k_iald hx hb hK hP 14 6 (σ 14) rfl rfl q2 dF_placeIn_12 ?_
  obtain ⟨P1, g1, h⟩ := h
  refine kc_vp (As := [.int (iI (σ 13 p1.toNat)), .int (iI (σ 14 p1.toNat))]) (rest := []) (ci := 3) (q0 := 3) S (c_R_placeOf l dC dI ad kc nn σ (σ 13 p1.toNat) (σ 14 p1.toNat) g1) (cwV 2 hts (gV mw_545 mw_546 mw_547 mw_5 k_R_placeOf) rfl rfl rfl (by decide +kernel) ⟨Nat.le_of_ble_eq_true rfl, Nat.le_of_ble_eq_true rfl⟩) hK hN hP rfl rfl rfl hl.1 rfl (Nat.le_of_ble_eq_true rfl) dF_placeIn_13 ⟨Nat.zero_le _, Nat.zero_le _⟩ (fun r1 hp => ?_)
  have h := h r1 hp
  exact k_iretP hx hb hr hlocks dF_placeIn_16 h
abbrev rm_P_unrolled : Room := { frames := 6, cells := 0, slots := 0, locals := 87 }
set_option maxHeartbeats 4000000 in
set_option maxRecDepth 100000 in
theorem c_P_unrolled (l : Launch) (dC : Nat → ClassId) (dI : Nat → Nat → Nat) (ad : Nat → Nat) (kc : Nat → ClassId) (nn : Nat → Nat) (σ : kM) (p0 : Int) {P : Int → kM → Prop} (h : wp_P_unrolled nn σ p0 P (fun _ _ => False)) : kMi l y_P_unrolled ws_P_unrolled rm_P_unrolled (dC, dI) vwC (tyC kc) (wC ad kc nn) nsG σ [.ref (ad 0), .int (iI p0)] P := by
  intro sz
  refine k_enter (cc := b_P_unrolled) (maxL := 2) (ret := (some .int)) (by decide) rfl (Nat.le_of_ble_eq_true rfl) ?_
  intro p e s m below meth c ls S hr hlocks hsz hA hW hK hN hl
  generalize va_A ((wC ad kc nn) σ) sz = A at hA hW ⊢
  generalize ([.ref (ad 0), .int (iI p0)] : List Value).toArray = args at S ⊢
  obtain ⟨hx, hb, hml, hown, hts⟩ := id S
  have hl : lv_has ls 2 [(0, .ref (ad 0)), (1, .int (iI p0))] := hl
  unfold wp_P_unrolled at h
  refine lv_aload_n hx hb dP_unrolled_0 rfl (lv_at hl 0 rfl) ?_
  refine k_get (ci := 0) (C := R_P) (T := T_P) (N := 7) hx hb hts (fun w q => gG_in (inG_P w q)) hown hK hW.1 0 rfl rfl 3 (by decide) (hts _ (gG_in mw_201)) rfl dP_unrolled_1 ?_
  refine lv_iload_n hx hb dP_unrolled_4 rfl (lv_at hl 1 rfl) ?_
  obtain ⟨P1, g1, h⟩ := h
  refine kc_vp (As := [.int (iI p0)]) (rest := []) (ci := 4) (q0 := 4) S (c_F_has l dC dI ad kc nn σ p0 g1) (cwV 1 hts (gV mw_535 mw_536 mw_537 mw_6 k_F_has) rfl rfl rfl (by decide +kernel) ⟨Nat.le_of_ble_eq_true rfl, Nat.le_of_ble_eq_true rfl⟩) hK hN hW.1 rfl rfl rfl hl.1 rfl (Nat.le_of_ble_eq_true rfl) dP_unrolled_5 ⟨Nat.zero_le _, Nat.zero_le _⟩ (fun r1 hp => ?_)
  have h := h r1 hp
  obtain ⟨q1, h⟩ := h
  obtain ⟨ht, hf⟩ := h
  refine ki_if_ne (tgt := 21) hx hb dP_unrolled_8 (by decide) q1 (fun c1 => ?_) (fun c1 => ?_)
  · have h := ht c1
    refine lv_aload_n hx hb dP_unrolled_21 rfl (lv_at hl 0 rfl) ?_
    refine k_get (ci := 0) (C := R_P) (T := T_P) (N := 7) hx hb hts (fun w q => gG_in (inG_P w q)) hown hK hW.1 0 rfl rfl 2 (by decide) (hts _ (gG_in mw_200)) rfl dP_unrolled_22 ?_
    obtain ⟨P2, g2, h⟩ := h
    refine kc_vp (As := []) (rest := []) (ci := 3) (q0 := 3) S (c_R_isPeeled l dC dI ad kc nn σ g2) (cwV 0 hts (gV mw_480 mw_481 mw_482 mw_5 k_R_isPeeled) rfl rfl rfl (by decide +kernel) ⟨Nat.le_of_ble_eq_true rfl, Nat.le_of_ble_eq_true rfl⟩) hK hN hW.1 rfl rfl rfl hl.1 rfl (Nat.le_of_ble_eq_true rfl) dP_unrolled_25 ⟨Nat.zero_le _, Nat.zero_le _⟩ (fun r2 hp => ?_)
    have h := h r2 hp
    obtain ⟨q2, h⟩ := h
    obtain ⟨ht, hf⟩ := h
    refine ki_if_ne (tgt := 41) hx hb dP_unrolled_28 (by decide) q2 (fun c2 => ?_) (fun c2 => ?_)
    · have h := ht c2
      refine lv_aload_n hx hb dP_unrolled_41 rfl (lv_at hl 0 rfl) ?_
      refine k_get (ci := 0) (C := R_P) (T := T_P) (N := 7) hx hb hts (fun w q => gG_in (inG_P w q)) hown hK hW.1 0 rfl rfl 3 (by decide) (hts _ (gG_in mw_201)) rfl dP_unrolled_42 ?_
      refine lv_aload_n hx hb dP_unrolled_45 rfl (lv_at hl 0 rfl) ?_
      refine k_get (ci := 0) (C := R_P) (T := T_P) (N := 7) hx hb hts (fun w q => gG_in (inG_P w q)) hown hK hW.1 0 rfl rfl 2 (by decide) (hts _ (gG_in mw_200)) rfl dP_unrolled_46 ?_
      refine lv_iload_n hx hb dP_unrolled_49 rfl (lv_at hl 1 rfl) ?_
      obtain ⟨P3, g3, h⟩ := h
      refine kc_vp (As := [.ref (ad 3), .int (iI p0)]) (rest := []) (ci := 4) (q0 := 4) S (c_F_placeIn l dC dI ad kc nn σ p0 g3) (cwV 2 hts (gV mw_541 mw_542 mw_543 mw_6 k_F_placeIn) rfl rfl rfl (by decide +kernel) ⟨Nat.le_of_ble_eq_true rfl, Nat.le_of_ble_eq_true rfl⟩) hK hN hW.1 rfl rfl rfl hl.1 rfl (Nat.le_of_ble_eq_true rfl) dP_unrolled_50 ⟨Nat.zero_le _, Nat.zero_le _⟩ (fun r3 hp => ?_)
      have h := h r3 hp
      exact k_iret hx hb hr hlocks hW dP_unrolled_53 h
    · have h := hf c2
      exact False.elim h
  · have h := hf c1
    exact False.elim h
abbrev rm_L_isFull : Room := { frames := 0, cells := 0, slots := 0, locals := 0 }
set_option maxHeartbeats 4000000 in
set_option maxRecDepth 100000 in
theorem c_L_isFull (l : Launch) (dC : Nat → ClassId) (dI : Nat → Nat → Nat) (ad : Nat → Nat) (kc : Nat → ClassId) (nn : Nat → Nat) (σ : kM) {P : Int → Prop} (h : wp_L_isFull nn σ P) : kMp l y_L_isFull ws_L_isFull rm_L_isFull (dC, dI) vwC (tyC kc) (wC ad kc nn) nsG σ [.ref (ad 5)] P := by
  refine k_enterP (cc := b_L_isFull) (maxL := 1) (ret := (some .boolean)) (by decide) rfl (Nat.le_of_ble_eq_true rfl) ?_
  intro p e s m below meth c ls S hr hlocks hP hK hN hl
  generalize ([.ref (ad 5)] : List Value).toArray = args at S ⊢
  obtain ⟨hx, hb, hml, hown, hts⟩ := id S
  have hl : lv_has ls 1 [(0, .ref (ad 5))] := hl
  unfold wp_L_isFull at h
  refine lv_aload_n hx hb dL_isFull_0 rfl (lv_at hl 0 rfl) ?_
  refine k_get (ci := 5) (C := R_L) (T := T_L) (N := 4) hx hb hts (fun w q => gG_in (inG_L w q)) hown hK hP 5 rfl rfl 3 (by decide) (hts _ (gG_in mw_134)) rfl dL_isFull_1 ?_
  refine lv_bipush (v := iI 6) hx hb dL_isFull_4 (by decide) ?_
  obtain ⟨q1, h⟩ := h
  obtain ⟨ht, hf⟩ := h
  refine ki_icmp_lt (tgt := 13) hx hb dL_isFull_6 (by decide) q1 (by constructor <;> decide) (fun c1 => ?_) (fun c1 => ?_)
  · have h := ht c1
    refine lv_iconst (v := iI 0) hx hb dL_isFull_13 rfl ?_
    exact k_zretP hx hb hr hlocks dL_isFull_14 (by decide) h
  · have h := hf c1
    refine lv_iconst (v := iI 1) hx hb dL_isFull_9 rfl ?_
    refine lv_goto (tgt := 14) hx hb dL_isFull_10 (by decide) ?_
    exact k_zretP hx hb hr hlocks dL_isFull_14 (by decide) h
abbrev rm_L_add : Room := { frames := 0, cells := 0, slots := 0, locals := 0 }
set_option maxHeartbeats 4000000 in
set_option maxRecDepth 100000 in
theorem c_L_add (l : Launch) (dC : Nat → ClassId) (dI : Nat → Nat → Nat) (ad : Nat → Nat) (kc : Nat → ClassId) (nn : Nat → Nat) (σ : kM) (p0 : Int) (p1 : Int) {P : Int → kM → Prop} (h : wp_L_add nn σ p0 p1 P) : kMi l y_L_add ws_L_add rm_L_add (dC, dI) vwC (tyC kc) (wC ad kc nn) nsG σ [.ref (ad 5), .int (iI p0), .int (iI p1)] P := by
  intro sz
  refine k_enter (cc := b_L_add) (maxL := 3) (ret := (some .int)) (by decide) rfl (Nat.le_of_ble_eq_true rfl) ?_
  intro p e s m below meth c ls S hr hlocks hsz hA hW hK hN hl
  generalize va_A ((wC ad kc nn) σ) sz = A at hA hW ⊢
  generalize ([.ref (ad 5), .int (iI p0), .int (iI p1)] : List Value).toArray = args at S ⊢
  obtain ⟨hx, hb, hml, hown, hts⟩ := id S
  have hl : lv_has ls 3 [(0, .ref (ad 5)), (1, .int (iI p0)), (2, .int (iI p1))] := hl
  unfold wp_L_add at h
  refine lv_aload_n hx hb dL_add_0 rfl (lv_at hl 0 rfl) ?_
  refine k_get (ci := 5) (C := R_L) (T := T_L) (N := 4) hx hb hts (fun w q => gG_in (inG_L w q)) hown hK hW.1 5 rfl rfl 0 (by decide) (hts _ (gG_in mw_131)) rfl dL_add_1 ?_
  refine lv_aload_n hx hb dL_add_4 rfl (lv_at hl 0 rfl) ?_
  refine k_get (ci := 5) (C := R_L) (T := T_L) (N := 4) hx hb hts (fun w q => gG_in (inG_L w q)) hown hK hW.1 5 rfl rfl 3 (by decide) (hts _ (gG_in mw_134)) rfl dL_add_5 ?_
  refine lv_iload_n hx hb dL_add_8 rfl (lv_at hl 1 rfl) ?_
  obtain ⟨q1, h⟩ := h
  obtain ⟨s1, es1⟩ : ∃ z : kM, z = va_up σ 16 (va_up (σ 16) (σ 5 3).toNat p0) := ⟨_, rfl⟩
  refine k_iast (ws' := wC ad kc nn s1) hx hb hK hW 16 8 (σ 16) rfl rfl q1 (by rw [es1]; exact wC_a16 ..) dL_add_9 (fun H locs hW => ?_)
  have h := h s1 es1
  refine lv_aload_n hx hb dL_add_10 rfl (lv_at hl 0 rfl) ?_
  refine k_get (ci := 5) (C := R_L) (T := T_L) (N := 4) hx hb hts (fun w q => gG_in (inG_L w q)) hown hK hW.1 5 rfl rfl 1 (by decide) (hts _ (gG_in mw_132)) rfl dL_add_11 ?_
  refine lv_aload_n hx hb dL_add_14 rfl (lv_at hl 0 rfl) ?_
  refine k_get (ci := 5) (C := R_L) (T := T_L) (N := 4) hx hb hts (fun w q => gG_in (inG_L w q)) hown hK hW.1 5 rfl rfl 3 (by decide) (hts _ (gG_in mw_134)) rfl dL_add_15 ?_
  refine lv_iload_n hx hb dL_add_18 rfl (lv_at hl 2 rfl) ?_
  obtain ⟨q2, h⟩ := h
  obtain ⟨s2, es2⟩ : ∃ z : kM, z = va_up s1 17 (va_up (s1 17) (s1 5 3).toNat p1) := ⟨_, rfl⟩
  refine k_iast (ws' := wC ad kc nn s2) hx hb hK hW 17 9 (s1 17) rfl rfl q2 (by rw [es2]; exact wC_a17 ..) dL_add_19 (fun H locs hW => ?_)
  have h := h s2 es2
  refine lv_aload_n hx hb dL_add_20 rfl (lv_at hl 0 rfl) ?_
  refine lv_dup hx hb dL_add_21 rfl ?_
  refine k_get (ci := 5) (C := R_L) (T := T_L) (N := 4) hx hb hts (fun w q => gG_in (inG_L w q)) hown hK hW.1 5 rfl rfl 3 (by decide) (hts _ (gG_in mw_134)) rfl dL_add_22 ?_
  refine lv_iconst (v := iI 1) hx hb dL_add_25 rfl ?_
  refine ki_add hx hb dL_add_26 ?_
  obtain ⟨s3, es3⟩ : ∃ z : kM, z = va_up s2 5 (va_up (s2 5) 3 ((s2 5 3) + 1)) := ⟨_, rfl⟩
  refine k_put (ty := .int) (ws' := wC ad kc nn s3) (ci := 5) (C := R_L) (T := T_L) (N := 4) hx hb hts (fun w q => gG_in (inG_L w q)) ty_L tk_L nm_L hown hK hW 5 rfl rfl 3 (by decide) (hts _ (gG_in mw_134)) rfl (by decide +kernel) rfl rfl (Nat.le_of_ble_eq_true rfl) (by rw [es3]; exact wC_p5_3 ..) dL_add_27 (fun H locs hW => ?_)
  have h := h s3 es3
  refine lv_aload_n hx hb dL_add_30 rfl (lv_at hl 0 rfl) ?_
  refine k_get (ci := 5) (C := R_L) (T := T_L) (N := 4) hx hb hts (fun w q => gG_in (inG_L w q)) hown hK hW.1 5 rfl rfl 3 (by decide) (hts _ (gG_in mw_134)) rfl dL_add_31 ?_
  refine lv_iconst (v := iI 1) hx hb dL_add_34 rfl ?_
  refine ki_sub hx hb dL_add_35 ?_
  exact k_iret hx hb hr hlocks hW dL_add_36 h
end
section
abbrev rm_P_leaf : Room := { frames := 6, cells := 0, slots := 0, locals := 82 }
set_option maxHeartbeats 4000000 in
set_option maxRecDepth 100000 in
theorem c_P_leaf (l : Launch) (dC : Nat → ClassId) (dI : Nat → Nat → Nat) (ad : Nat → Nat) (kc : Nat → ClassId) (nn : Nat → Nat) (σ : kM) (p0 : Int) (p1 : Int) {P : Int → kM → Prop} (h : wp_P_leaf nn σ p0 p1 P (fun _ _ => False)) : kMi l y_P_leaf ws_P_leaf rm_P_leaf (dC, dI) vwC (tyC kc) (wC ad kc nn) nsG σ [.ref (ad 0), .int (iI p0), .int (iI p1)] P := by
  intro sz
  refine k_enter (cc := b_P_leaf) (maxL := 3) (ret := (some .int)) (by decide) rfl (Nat.le_of_ble_eq_true rfl) ?_
  intro p e s m below meth c ls S hr hlocks hsz hA hW hK hN hl
  generalize va_A ((wC ad kc nn) σ) sz = A at hA hW ⊢
  generalize ([.ref (ad 0), .int (iI p0), .int (iI p1)] : List Value).toArray = args at S ⊢
  obtain ⟨hx, hb, hml, hown, hts⟩ := id S
  have hl : lv_has ls 3 [(0, .ref (ad 0)), (1, .int (iI p0)), (2, .int (iI p1))] := hl
  unfold wp_P_leaf at h
  refine lv_iload_n hx hb dP_leaf_0 rfl (lv_at hl 1 rfl) ?_
  refine lv_iconst (v := iI 1) hx hb dP_leaf_1 rfl ?_
  refine lv_sipush (v := iI 500) hx hb dP_leaf_2 (by decide) ?_
  obtain ⟨P1, g1, h⟩ := h
  refine kc_sp (As := [.int (iI p0), .int (iI 1), .int (iI 500)]) (rest := []) S (c_P_isWithin l dC dI (tyC kc) (wC ad kc nn) nn σ p0 1 500 g1) (cwS 3 hts (gS mw_417 mw_270 mw_1 k_P_isWithin) rfl rfl rfl (by decide +kernel) ⟨Nat.le_of_ble_eq_true rfl, Nat.le_of_ble_eq_true rfl⟩) hK hN hW.1 rfl hl.1 rfl (Nat.le_of_ble_eq_true rfl) dP_leaf_5 ⟨Nat.zero_le _, Nat.zero_le _⟩ (fun r1 hp => ?_)
  have h := h r1 hp
  obtain ⟨q1, h⟩ := h
  obtain ⟨ht, hf⟩ := h
  refine ki_if_eq (tgt := 21) hx hb dP_leaf_8 (by decide) q1 (fun c1 => ?_) (fun c1 => ?_)
  · have h := ht c1
    exact False.elim h
  · have h := hf c1
    refine lv_iload_n hx hb dP_leaf_11 rfl (lv_at hl 2 rfl) ?_
    refine lv_iconst (v := iI 0) hx hb dP_leaf_12 rfl ?_
    refine lv_ldc (v := iI 1000000) hx hb hown (hts _ (gG_in mc_557)) dP_leaf_13 ?_
    obtain ⟨P2, g2, h⟩ := h
    refine kc_sp (As := [.int (iI p1), .int (iI 0), .int (iI 1000000)]) (rest := []) S (c_P_isWithin l dC dI (tyC kc) (wC ad kc nn) nn σ p1 0 1000000 g2) (cwS 3 hts (gS mw_417 mw_270 mw_1 k_P_isWithin) rfl rfl rfl (by decide +kernel) ⟨Nat.le_of_ble_eq_true rfl, Nat.le_of_ble_eq_true rfl⟩) hK hN hW.1 rfl hl.1 rfl (Nat.le_of_ble_eq_true rfl) dP_leaf_15 ⟨Nat.zero_le _, Nat.zero_le _⟩ (fun r2 hp => ?_)
    have h := h r2 hp
    obtain ⟨q2, h⟩ := h
    obtain ⟨ht, hf⟩ := h
    refine ki_if_ne (tgt := 31) hx hb dP_leaf_18 (by decide) q2 (fun c2 => ?_) (fun c2 => ?_)
    · have h := ht c2
      refine lv_aload_n hx hb dP_leaf_31 rfl (lv_at hl 0 rfl) ?_
      refine k_get (ci := 0) (C := R_P) (T := T_P) (N := 7) hx hb hts (fun w q => gG_in (inG_P w q)) hown hK hW.1 0 rfl rfl 4 (by decide) (hts _ (gG_in mw_202)) rfl dP_leaf_32 ?_
      obtain ⟨P3, g3, h⟩ := h
      refine kc_vp (As := []) (rest := []) (ci := 5) (q0 := 5) S (c_L_isFull l dC dI ad kc nn σ g3) (cwV 0 hts (gV mw_559 mw_560 mw_561 mw_7 k_L_isFull) rfl rfl rfl (by decide +kernel) ⟨Nat.le_of_ble_eq_true rfl, Nat.le_of_ble_eq_true rfl⟩) hK hN hW.1 rfl rfl rfl hl.1 rfl (Nat.le_of_ble_eq_true rfl) dP_leaf_35 ⟨Nat.zero_le _, Nat.zero_le _⟩ (fun r3 hp => ?_)
      have h := h r3 hp
      obtain ⟨q3, h⟩ := h
      obtain ⟨ht, hf⟩ := h
      refine ki_if_eq (tgt := 51) hx hb dP_leaf_38 (by decide) q3 (fun c3 => ?_) (fun c3 => ?_)
      · have h := ht c3
        refine lv_aload_n hx hb dP_leaf_51 rfl (lv_at hl 0 rfl) ?_
        refine k_get (ci := 0) (C := R_P) (T := T_P) (N := 7) hx hb hts (fun w q => gG_in (inG_P w q)) hown hK hW.1 0 rfl rfl 5 (by decide) (hts _ (gG_in mw_203)) rfl dP_leaf_52 ?_
        obtain ⟨P4, g4, h⟩ := h
        refine kc_vv (As := []) (rest := []) (ci := 6) (q0 := 6) S (c_C_forget l dC dI ad kc nn σ g4) (cwV 0 hts (gV mw_406 mw_407 mw_408 mw_8 k_C_forget) rfl rfl rfl (by decide +kernel) ⟨Nat.le_of_ble_eq_true rfl, Nat.le_of_ble_eq_true rfl⟩) hK hN hA hW (fun _ => rfl) rfl rfl rfl hl.1 rfl (Nat.le_of_ble_eq_true rfl) dP_leaf_55 ⟨Nat.zero_le _, Nat.zero_le _⟩ (fun s1 H locs hp hW => ?_)
        have h := h s1 hp
        refine lv_aload_n hx hb dP_leaf_58 rfl (lv_at hl 0 rfl) ?_
        refine k_get (ci := 0) (C := R_P) (T := T_P) (N := 7) hx hb hts (fun w q => gG_in (inG_P w q)) hown hK hW.1 0 rfl rfl 4 (by decide) (hts _ (gG_in mw_202)) rfl dP_leaf_59 ?_
        refine lv_iload_n hx hb dP_leaf_62 rfl (lv_at hl 1 rfl) ?_
        refine lv_iload_n hx hb dP_leaf_63 rfl (lv_at hl 2 rfl) ?_
        obtain ⟨P5, g5, h⟩ := h
        refine kc_vi (As := [.int (iI p0), .int (iI p1)]) (rest := []) (ci := 5) (q0 := 5) S (c_L_add l dC dI ad kc nn s1 p0 p1 g5) (cwV 2 hts (gV mw_564 mw_565 mw_566 mw_7 k_L_add) rfl rfl rfl (by decide +kernel) ⟨Nat.le_of_ble_eq_true rfl, Nat.le_of_ble_eq_true rfl⟩) hK hN hA hW (fun _ => rfl) rfl rfl rfl hl.1 rfl (Nat.le_of_ble_eq_true rfl) dP_leaf_64 ⟨Nat.zero_le _, Nat.zero_le _⟩ (fun r4 s2 H locs hp hW => ?_)
        have h := h r4 s2 hp
        exact k_iret hx hb hr hlocks hW dP_leaf_67 h
      · have h := hf c3
        exact False.elim h
    · have h := hf c2
      exact False.elim h
abbrev rm_L_has : Room := { frames := 1, cells := 0, slots := 0, locals := 22 }
set_option maxHeartbeats 4000000 in
set_option maxRecDepth 100000 in
theorem c_L_has (l : Launch) (dC : Nat → ClassId) (dI : Nat → Nat → Nat) (ad : Nat → Nat) (kc : Nat → ClassId) (nn : Nat → Nat) (σ : kM) (p0 : Int) {P : Int → Prop} (h : wp_L_has nn σ p0 P) : kMp l y_L_has ws_L_has rm_L_has (dC, dI) vwC (tyC kc) (wC ad kc nn) nsG σ [.ref (ad 5), .int (iI p0)] P := by
  refine k_enterP (cc := b_L_has) (maxL := 2) (ret := (some .boolean)) (by decide) rfl (Nat.le_of_ble_eq_true rfl) ?_
  intro p e s m below meth c ls S hr hlocks hP hK hN hl
  generalize ([.ref (ad 5), .int (iI p0)] : List Value).toArray = args at S ⊢
  obtain ⟨hx, hb, hml, hown, hts⟩ := id S
  have hl : lv_has ls 2 [(0, .ref (ad 5)), (1, .int (iI p0))] := hl
  unfold wp_L_has at h
  refine lv_iload_n hx hb dL_has_0 rfl (lv_at hl 1 rfl) ?_
  refine lv_iconst (v := iI 0) hx hb dL_has_1 rfl ?_
  refine lv_aload_n hx hb dL_has_2 rfl (lv_at hl 0 rfl) ?_
  refine k_get (ci := 5) (C := R_L) (T := T_L) (N := 4) hx hb hts (fun w q => gG_in (inG_L w q)) hown hK hP 5 rfl rfl 3 (by decide) (hts _ (gG_in mw_134)) rfl dL_has_3 ?_
  refine lv_iconst (v := iI 1) hx hb dL_has_6 rfl ?_
  refine ki_sub hx hb dL_has_7 ?_
  obtain ⟨P1, g1, h⟩ := h
  refine kc_np (As := [.int (iI p0), .int (iI 0), .int (iI ((σ 5 3) - 1))]) (rest := []) S (c_P_isWithin l dC dI (tyC kc) (wC ad kc nn) nn σ p0 0 ((σ 5 3) - 1) g1) ⟨va_cnB 3 hts (gG_good k_P_isWithin) rfl rfl rfl (hN _ (List.mem_of_getElem? (i := 7) rfl)) (hts _ (gG_in mw_1)) (by decide +kernel) ⟨Nat.le_of_ble_eq_true rfl, Nat.le_of_ble_eq_true rfl⟩, hts _ (gG_in mw_270), trivial⟩ hK hN hP rfl hl.1 rfl (Nat.le_of_ble_eq_true rfl) dL_has_8 ⟨Nat.zero_le _, Nat.zero_le _⟩ (fun r1 hp => ?_)
  have h := h r1 hp
  exact k_zretP hx hb hr hlocks dL_has_11 h.1 h.2
abbrev rm_L_barsAny : Room := { frames := 0, cells := 0, slots := 0, locals := 0 }
set_option maxHeartbeats 4000000 in
set_option maxRecDepth 100000 in
theorem c_L_barsAny (l : Launch) (dC : Nat → ClassId) (dI : Nat → Nat → Nat) (ad : Nat → Nat) (kc : Nat → ClassId) (nn : Nat → Nat) (σ : kM) (p0 : Int) (p1 : Int) {P : Int → Prop} (h : wp_L_barsAny nn σ p0 p1 P) : kMp l y_L_barsAny ws_L_barsAny rm_L_barsAny (dC, dI) vwC (tyC kc) (wC ad kc nn) nsG σ [.ref (ad 5), .int (iI p0), .int (iI p1)] P := by
  refine k_enterP (cc := b_L_barsAny) (maxL := 3) (ret := (some .boolean)) (by decide) rfl (Nat.le_of_ble_eq_true rfl) ?_
  intro p e s m below meth c ls S hr hlocks hP hK hN hl
  generalize ([.ref (ad 5), .int (iI p0), .int (iI p1)] : List Value).toArray = args at S ⊢
  obtain ⟨hx, hb, hml, hown, hts⟩ := id S
  have hl : lv_has ls 3 [(0, .ref (ad 5)), (1, .int (iI p0)), (2, .int (iI p1))] := hl
  unfold wp_L_barsAny at h
  refine lv_aload_n hx hb dL_barsAny_0 rfl (lv_at hl 0 rfl) ?_
  refine k_get (ci := 5) (C := R_L) (T := T_L) (N := 4) hx hb hts (fun w q => gG_in (inG_L w q)) hown hK hP 5 rfl rfl 2 (by decide) (hts _ (gG_in mw_133)) rfl dL_barsAny_1 ?_
  refine lv_iload_n hx hb dL_barsAny_4 rfl (lv_at hl 1 rfl) ?_
  obtain ⟨q1, h⟩ := h
  refine k_iald hx hb hK hP 18 10 (σ 18) rfl rfl q1 dL_barsAny_5 ?_
  refine lv_iload_n hx hb dL_barsAny_6 rfl (lv_at hl 2 rfl) ?_
  refine ki_and hx hb dL_barsAny_7 ?_
  obtain ⟨q2, h⟩ := h
  obtain ⟨ht, hf⟩ := h
  refine ki_if_eq (tgt := 15) hx hb dL_barsAny_8 (by decide) q2 (fun c1 => ?_) (fun c1 => ?_)
  · have h := ht c1
    refine lv_iconst (v := iI 0) hx hb dL_barsAny_15 rfl ?_
    exact k_zretP hx hb hr hlocks dL_barsAny_16 (by decide) h
  · have h := hf c1
    refine lv_iconst (v := iI 1) hx hb dL_barsAny_11 rfl ?_
    refine lv_goto (tgt := 16) hx hb dL_barsAny_12 (by decide) ?_
    exact k_zretP hx hb hr hlocks dL_barsAny_16 (by decide) h
abbrev rm_L_tellBar : Room := { frames := 1, cells := 0, slots := 0, locals := 22 }
set_option maxHeartbeats 4000000 in
set_option maxRecDepth 100000 in
theorem c_L_tellBar (l : Launch) (dC : Nat → ClassId) (dI : Nat → Nat → Nat) (ad : Nat → Nat) (kc : Nat → ClassId) (nn : Nat → Nat) (σ : kM) (p0 : Int) (p1 : Int) (p2 : Int) {P : Int → kM → Prop} (h : wp_L_tellBar nn σ p0 p1 p2 P) : kMi l y_L_tellBar ws_L_tellBar rm_L_tellBar (dC, dI) vwC (tyC kc) (wC ad kc nn) nsG σ [.ref (ad 5), .int (iI p0), .int (iI p1), .int (iI p2)] P := by
  intro sz
  refine k_enter (cc := b_L_tellBar) (maxL := 5) (ret := (some .boolean)) (by decide) rfl (Nat.le_of_ble_eq_true rfl) ?_
  intro p e s m below meth c ls S hr hlocks hsz hA hW hK hN hl
  generalize va_A ((wC ad kc nn) σ) sz = A at hA hW ⊢
  generalize ([.ref (ad 5), .int (iI p0), .int (iI p1), .int (iI p2)] : List Value).toArray = args at S ⊢
  obtain ⟨hx, hb, hml, hown, hts⟩ := id S
  have hl : lv_has ls 5 [(0, .ref (ad 5)), (1, .int (iI p0)), (2, .int (iI p1)), (3, .int (iI p2))] := hl
  unfold wp_L_tellBar at h
  refine lv_aload_n hx hb dL_tellBar_0 rfl (lv_at hl 0 rfl) ?_
  refine lv_iload_n hx hb dL_tellBar_1 rfl (lv_at hl 1 rfl) ?_
  refine lv_iconst (v := iI 1) hx hb dL_tellBar_2 rfl ?_
  refine lv_iload_n hx hb dL_tellBar_3 rfl (lv_at hl 2 rfl) ?_
  refine ki_shl hx hb dL_tellBar_4 ?_
  obtain ⟨P1, g1, h⟩ := h
  refine kc_vp (As := [.int (iI p0), .int (iI (kShl 1 p1))]) (rest := []) (ci := 5) (q0 := 5) S (c_L_barsAny l dC dI ad kc nn σ p0 (kShl 1 p1) g1) (cwV 2 hts (gV mw_585 mw_586 mw_587 mw_7 k_L_barsAny) rfl rfl rfl (by decide +kernel) ⟨Nat.le_of_ble_eq_true rfl, Nat.le_of_ble_eq_true rfl⟩) hK hN hW.1 rfl rfl rfl hl.1 rfl (Nat.le_of_ble_eq_true rfl) dL_tellBar_5 ⟨Nat.zero_le _, Nat.zero_le _⟩ (fun r1 hp => ?_)
  have h := h r1 hp
  refine lv_iload_n hx hb dL_tellBar_8 rfl (lv_at hl 3 rfl) ?_
  obtain ⟨q1, h⟩ := h
  obtain ⟨q2, h⟩ := h
  have jW1 : ∀ (v1 : Int) (H : Heap) (locs : List Loc) (ls : Array Slot), kW (dC, dI) vwC A s.heap (wC ad kc nn σ) H locs → lv_has ls 5 [(0, .ref (ad 5)), (1, .int (iI p0)), (2, .int (iI p1))] → jn_L_tellBar_17 nn p0 p1 σ P v1 → W p l e (headSpec ws_L_tellBar rm_L_tellBar).room s m args below meth c H locs 0 0 (MQ below (kQi (dC, dI) vwC (wC ad kc nn) P A) args s 0 0 A) (F0 m 17 ls [.int (iI v1)]) := by
    intro v1 H locs ls hW hl h
    unfold jn_L_tellBar_17 at h
    refine lv_istore (lv' := [(4, .int (iI v1)), (0, .ref (ad 5)), (1, .int (iI p0)), (2, .int (iI p1))]) hx hb dL_tellBar_17 hl (by decide) rfl (fun ls hl => ?_)
    refine lv_iload hx hb dL_tellBar_19 (lv_at hl 0 rfl) ?_
    obtain ⟨q3, h⟩ := h
    obtain ⟨ht, hf⟩ := h
    refine ki_if_eq (tgt := 36) hx hb dL_tellBar_21 (by decide) q3 (fun c1 => ?_) (fun c1 => ?_)
    · have h := ht c1
      refine lv_iload hx hb dL_tellBar_36 (lv_at hl 0 rfl) ?_
      exact k_zret hx hb hr hlocks hW dL_tellBar_38 h.1 h.2
    · have h := hf c1
      refine lv_aload_n hx hb dL_tellBar_24 rfl (lv_at hl 1 rfl) ?_
      refine k_get (ci := 5) (C := R_L) (T := T_L) (N := 4) hx hb hts (fun w q => gG_in (inG_L w q)) hown hK hW.1 5 rfl rfl 2 (by decide) (hts _ (gG_in mw_133)) rfl dL_tellBar_25 ?_
      refine lv_iload_n hx hb dL_tellBar_28 rfl (lv_at hl 2 rfl) ?_
      refine lv_dup2_11 hx hb dL_tellBar_29 rfl rfl ?_
      obtain ⟨q4, h⟩ := h
      refine k_iald hx hb hK hW.1 18 10 (σ 18) rfl rfl q4 dL_tellBar_30 ?_
      refine lv_iconst (v := iI 1) hx hb dL_tellBar_31 rfl ?_
      refine lv_iload_n hx hb dL_tellBar_32 rfl (lv_at hl 3 rfl) ?_
      refine ki_shl hx hb dL_tellBar_33 ?_
      refine ki_xor hx hb dL_tellBar_34 ?_
      obtain ⟨q5, h⟩ := h
      obtain ⟨s1, es1⟩ : ∃ z : kM, z = va_up σ 18 (va_up (σ 18) p0.toNat (kXor (σ 18 p0.toNat) (kShl 1 p1))) := ⟨_, rfl⟩
      refine k_iast (ws' := wC ad kc nn s1) hx hb hK hW 18 10 (σ 18) rfl rfl q5 (by rw [es1]; exact wC_a18 ..) dL_tellBar_35 (fun H locs hW => ?_)
      have h := h s1 es1
      refine lv_iload hx hb dL_tellBar_36 (lv_at hl 0 rfl) ?_
      exact k_zret hx hb hr hlocks hW dL_tellBar_38 h.1 h.2
  obtain ⟨ht, hf⟩ := h
  refine ki_icmp_eq (tgt := 16) hx hb dL_tellBar_9 (by decide) q1 q2 (fun c2 => ?_) (fun c2 => ?_)
  · have h := ht c2
    refine lv_iconst (v := iI 0) hx hb dL_tellBar_16 rfl ?_
    exact jW1 0 _ _ ls hW (lv_sub hl [0, 1, 2] rfl) h
  · have h := hf c2
    refine lv_iconst (v := iI 1) hx hb dL_tellBar_12 rfl ?_
    refine lv_goto (tgt := 17) hx hb dL_tellBar_13 (by decide) ?_
    exact jW1 1 _ _ ls hW (lv_sub hl [0, 1, 2] rfl) h
abbrev rm_P_bars : Room := { frames := 6, cells := 0, slots := 0, locals := 82 }
set_option maxHeartbeats 4000000 in
set_option maxRecDepth 100000 in
theorem c_P_bars (l : Launch) (dC : Nat → ClassId) (dI : Nat → Nat → Nat) (ad : Nat → Nat) (kc : Nat → ClassId) (nn : Nat → Nat) (σ : kM) (p0 : Int) (p1 : Int) (p2 : Int) {P : Int → kM → Prop} (h : wp_P_bars nn σ p0 p1 p2 P (fun _ _ => False)) : kMi l y_P_bars ws_P_bars rm_P_bars (dC, dI) vwC (tyC kc) (wC ad kc nn) nsG σ [.ref (ad 0), .int (iI p0), .int (iI p1), .int (iI p2)] P := by
  intro sz
  refine k_enter (cc := b_P_bars) (maxL := 5) (ret := (some .boolean)) (by decide) rfl (Nat.le_of_ble_eq_true rfl) ?_
  intro p e s m below meth c ls S hr hlocks hsz hA hW hK hN hl
  generalize va_A ((wC ad kc nn) σ) sz = A at hA hW ⊢
  generalize ([.ref (ad 0), .int (iI p0), .int (iI p1), .int (iI p2)] : List Value).toArray = args at S ⊢
  obtain ⟨hx, hb, hml, hown, hts⟩ := id S
  have hl : lv_has ls 5 [(0, .ref (ad 0)), (1, .int (iI p0)), (2, .int (iI p1)), (3, .int (iI p2))] := hl
  unfold wp_P_bars at h
  refine lv_aload_n hx hb dP_bars_0 rfl (lv_at hl 0 rfl) ?_
  refine k_get (ci := 0) (C := R_P) (T := T_P) (N := 7) hx hb hts (fun w q => gG_in (inG_P w q)) hown hK hW.1 0 rfl rfl 4 (by decide) (hts _ (gG_in mw_202)) rfl dP_bars_1 ?_
  refine lv_iload_n hx hb dP_bars_4 rfl (lv_at hl 1 rfl) ?_
  obtain ⟨P1, g1, h⟩ := h
  refine kc_vp (As := [.int (iI p0)]) (rest := []) (ci := 5) (q0 := 5) S (c_L_has l dC dI ad kc nn σ p0 g1) (cwV 1 hts (gV mw_575 mw_576 mw_577 mw_7 k_L_has) rfl rfl rfl (by decide +kernel) ⟨Nat.le_of_ble_eq_true rfl, Nat.le_of_ble_eq_true rfl⟩) hK hN hW.1 rfl rfl rfl hl.1 rfl (Nat.le_of_ble_eq_true rfl) dP_bars_5 ⟨Nat.zero_le _, Nat.zero_le _⟩ (fun r1 hp => ?_)
  have h := h r1 hp
  obtain ⟨q1, h⟩ := h
  obtain ⟨ht, hf⟩ := h
  refine ki_if_eq (tgt := 18) hx hb dP_bars_8 (by decide) q1 (fun c1 => ?_) (fun c1 => ?_)
  · have h := ht c1
    exact False.elim h
  · have h := hf c1
    refine lv_iload_n hx hb dP_bars_11 rfl (lv_at hl 2 rfl) ?_
    obtain ⟨P2, g2, h⟩ := h
    refine kc_sp (As := [.int (iI p1)]) (rest := []) S (c_P_isKind l dC dI (tyC kc) (wC ad kc nn) nn σ p1 g2) (cwS 1 hts (gS mw_515 mw_516 mw_1 k_P_isKind) rfl rfl rfl (by decide +kernel) ⟨Nat.le_of_ble_eq_true rfl, Nat.le_of_ble_eq_true rfl⟩) hK hN hW.1 rfl hl.1 rfl (Nat.le_of_ble_eq_true rfl) dP_bars_12 ⟨Nat.zero_le _, Nat.zero_le _⟩ (fun r2 hp => ?_)
    have h := h r2 hp
    obtain ⟨q2, h⟩ := h
    obtain ⟨ht, hf⟩ := h
    refine ki_if_ne (tgt := 28) hx hb dP_bars_15 (by decide) q2 (fun c2 => ?_) (fun c2 => ?_)
    · have h := ht c2
      refine lv_aload_n hx hb dP_bars_28 rfl (lv_at hl 0 rfl) ?_
      refine k_get (ci := 0) (C := R_P) (T := T_P) (N := 7) hx hb hts (fun w q => gG_in (inG_P w q)) hown hK hW.1 0 rfl rfl 4 (by decide) (hts _ (gG_in mw_202)) rfl dP_bars_29 ?_
      refine lv_iload_n hx hb dP_bars_32 rfl (lv_at hl 1 rfl) ?_
      refine lv_iload_n hx hb dP_bars_33 rfl (lv_at hl 2 rfl) ?_
      refine lv_iload_n hx hb dP_bars_34 rfl (lv_at hl 3 rfl) ?_
      obtain ⟨P3, g3, h⟩ := h
      refine kc_vi (As := [.int (iI p0), .int (iI p1), .int (iI p2)]) (rest := []) (ci := 5) (q0 := 5) S (c_L_tellBar l dC dI ad kc nn σ p0 p1 p2 g3) (cwV 3 hts (gV mw_581 mw_582 mw_583 mw_7 k_L_tellBar) rfl rfl rfl (by decide +kernel) ⟨Nat.le_of_ble_eq_true rfl, Nat.le_of_ble_eq_true rfl⟩) hK hN hA hW (fun _ => rfl) rfl rfl rfl hl.1 rfl (Nat.le_of_ble_eq_true rfl) dP_bars_35 ⟨Nat.zero_le _, Nat.zero_le _⟩ (fun r3 s1 H locs hp hW => ?_)
      have h := h r3 s1 hp
      refine lv_istore (lv' := [(4, .int (iI r3)), (0, .ref (ad 0)), (1, .int (iI p0)), (2, .int (iI p1)), (3, .int (iI p2))]) hx hb dP_bars_38 hl (by decide) rfl (fun ls hl => ?_)
      refine lv_iload hx hb dP_bars_40 (lv_at hl 0 rfl) ?_
      obtain ⟨q3, h⟩ := h
      obtain ⟨ht, hf⟩ := h
      refine ki_if_eq (tgt := 52) hx hb dP_bars_42 (by decide) q3 (fun c3 => ?_) (fun c3 => ?_)
      · have h := ht c3
        refine lv_iload hx hb dP_bars_52 (lv_at hl 0 rfl) ?_
        exact k_zret hx hb hr hlocks hW dP_bars_54 h.1 h.2
      · have h := hf c3
        refine lv_aload_n hx hb dP_bars_45 rfl (lv_at hl 1 rfl) ?_
        refine k_get (ci := 0) (C := R_P) (T := T_P) (N := 7) hx hb hts (fun w q => gG_in (inG_P w q)) hown hK hW.1 0 rfl rfl 5 (by decide) (hts _ (gG_in mw_203)) rfl dP_bars_46 ?_
        obtain ⟨P4, g4, h⟩ := h
        refine kc_vv (As := []) (rest := []) (ci := 6) (q0 := 6) S (c_C_forget l dC dI ad kc nn s1 g4) (cwV 0 hts (gV mw_406 mw_407 mw_408 mw_8 k_C_forget) rfl rfl rfl (by decide +kernel) ⟨Nat.le_of_ble_eq_true rfl, Nat.le_of_ble_eq_true rfl⟩) hK hN hA hW (fun _ => rfl) rfl rfl rfl hl.1 rfl (Nat.le_of_ble_eq_true rfl) dP_bars_49 ⟨Nat.zero_le _, Nat.zero_le _⟩ (fun s2 H locs hp hW => ?_)
        have h := h s2 hp
        refine lv_iload hx hb dP_bars_52 (lv_at hl 0 rfl) ?_
        exact k_zret hx hb hr hlocks hW dP_bars_54 h.1 h.2
    · have h := hf c2
      exact False.elim h
abbrev rm_R_length : Room := { frames := 2, cells := 0, slots := 0, locals := 42 }
set_option maxHeartbeats 4000000 in
set_option maxRecDepth 100000 in
theorem c_R_length (l : Launch) (dC : Nat → ClassId) (dI : Nat → Nat → Nat) (ad : Nat → Nat) (kc : Nat → ClassId) (nn : Nat → Nat) (σ : kM) {P : Int → Prop} (h : wp_R_length nn σ P) : kMp l y_R_length ws_R_length rm_R_length (dC, dI) vwC (tyC kc) (wC ad kc nn) nsG σ [.ref (ad 3)] P := by
  refine k_enterP (cc := b_R_length) (maxL := 1) (ret := (some .int)) (by decide) rfl (Nat.le_of_ble_eq_true rfl) ?_
  intro p e s m below meth c ls S hr hlocks hP hK hN hl
  generalize ([.ref (ad 3)] : List Value).toArray = args at S ⊢
  obtain ⟨hx, hb, hml, hown, hts⟩ := id S
  have hl : lv_has ls 1 [(0, .ref (ad 3))] := hl
  unfold wp_R_length at h
  refine lv_aload_n hx hb dR_length_0 rfl (lv_at hl 0 rfl) ?_
  refine lv_aload_n hx hb dR_length_1 rfl (lv_at hl 0 rfl) ?_
  refine k_get (ci := 3) (C := R_R) (T := T_R) (N := 4) hx hb hts (fun w q => gG_in (inG_R w q)) hown hK hP 3 rfl rfl 3 (by decide) (hts _ (gG_in mw_96)) rfl dR_length_2 ?_
  obtain ⟨P1, g1, h⟩ := h
  refine kc_vp (As := [.int (iI (σ 3 3))]) (rest := []) (ci := 3) (q0 := 3) S (c_R_lengthBefore l dC dI ad kc nn σ (σ 3 3) g1) (cwV 1 hts (gV mw_549 mw_502 mw_503 mw_5 k_R_lengthBefore) rfl rfl rfl (by decide +kernel) ⟨Nat.le_of_ble_eq_true rfl, Nat.le_of_ble_eq_true rfl⟩) hK hN hP rfl rfl rfl hl.1 rfl (Nat.le_of_ble_eq_true rfl) dR_length_5 ⟨Nat.zero_le _, Nat.zero_le _⟩ (fun r1 hp => ?_)
  have h := h r1 hp
  exact k_iretP hx hb hr hlocks dR_length_8 h
abbrev rm_F_count : Room := { frames := 0, cells := 0, slots := 0, locals := 0 }
set_option maxHeartbeats 4000000 in
set_option maxRecDepth 100000 in
theorem c_F_count (l : Launch) (dC : Nat → ClassId) (dI : Nat → Nat → Nat) (ad : Nat → Nat) (kc : Nat → ClassId) (nn : Nat → Nat) (σ : kM) {P : Int → Prop} (h : wp_F_count nn σ P) : kMp l y_F_count ws_F_count rm_F_count (dC, dI) vwC (tyC kc) (wC ad kc nn) nsG σ [.ref (ad 4)] P := by
  refine k_enterP (cc := b_F_count) (maxL := 1) (ret := (some .int)) (by decide) rfl (Nat.le_of_ble_eq_true rfl) ?_
  intro p e s m below meth c ls S hr hlocks hP hK hN hl
  generalize ([.ref (ad 4)] : List Value).toArray = args at S ⊢
  obtain ⟨hx, hb, hml, hown, hts⟩ := id S
  have hl : lv_has ls 1 [(0, .ref (ad 4))] := hl
  unfold wp_F_count at h
  refine lv_aload_n hx hb dF_count_0 rfl (lv_at hl 0 rfl) ?_
  refine k_get (ci := 4) (C := R_F) (T := T_F) (N := 4) hx hb hts (fun w q => gG_in (inG_F w q)) hown hK hP 4 rfl rfl 3 (by decide) (hts _ (gG_in mw_115)) rfl dF_count_1 ?_
  exact k_iretP hx hb hr hlocks dF_count_4 h
abbrev rm_F_kindBit : Room := { frames := 0, cells := 0, slots := 0, locals := 0 }
set_option maxHeartbeats 4000000 in
set_option maxRecDepth 100000 in
theorem c_F_kindBit (l : Launch) (dC : Nat → ClassId) (dI : Nat → Nat → Nat) (ad : Nat → Nat) (kc : Nat → ClassId) (nn : Nat → Nat) (σ : kM) (p0 : Int) {P : Int → Prop} (h : wp_F_kindBit nn σ p0 P) : kMp l y_F_kindBit ws_F_kindBit rm_F_kindBit (dC, dI) vwC (tyC kc) (wC ad kc nn) nsG σ [.ref (ad 4), .int (iI p0)] P := by
  refine k_enterP (cc := b_F_kindBit) (maxL := 2) (ret := (some .int)) (by decide) rfl (Nat.le_of_ble_eq_true rfl) ?_
  intro p e s m below meth c ls S hr hlocks hP hK hN hl
  generalize ([.ref (ad 4), .int (iI p0)] : List Value).toArray = args at S ⊢
  obtain ⟨hx, hb, hml, hown, hts⟩ := id S
  have hl : lv_has ls 2 [(0, .ref (ad 4)), (1, .int (iI p0))] := hl
  unfold wp_F_kindBit at h
  refine lv_iconst (v := iI 1) hx hb dF_kindBit_0 rfl ?_
  refine lv_aload_n hx hb dF_kindBit_1 rfl (lv_at hl 0 rfl) ?_
  refine k_get (ci := 4) (C := R_F) (T := T_F) (N := 4) hx hb hts (fun w q => gG_in (inG_F w q)) hown hK hP 4 rfl rfl 2 (by decide) (hts _ (gG_in mw_114)) rfl dF_kindBit_2 ?_
  refine lv_iload_n hx hb dF_kindBit_5 rfl (lv_at hl 1 rfl) ?_
  obtain ⟨q1, h⟩ := h
  refine k_iald hx hb hK hP 15 7 (σ 15) rfl rfl q1 dF_kindBit_6 ?_
  refine ki_shl hx hb dF_kindBit_7 ?_
  exact k_iretP hx hb hr hlocks dF_kindBit_8 h
abbrev rm_C_markFaults : Room := { frames := 4, cells := 0, slots := 0, locals := 87 }
set_option maxHeartbeats 4000000 in
set_option maxRecDepth 100000 in
theorem c_C_markFaults (l : Launch) (dC : Nat → ClassId) (dI : Nat → Nat → Nat) (ad : Nat → Nat) (kc : Nat → ClassId) (nn : Nat → Nat) (σ : kM) (p2 : Int) {P : kM → Prop} (h : wp_C_markFaults nn σ p2 P) : kMv l y_C_markFaults ws_C_markFaults rm_C_markFaults (dC, dI) vwC (tyC kc) (wC ad kc nn) nsG σ [.ref (ad 6), .ref (ad 3), .ref (ad 4), .int (iI p2)] P := by
  intro sz
  refine k_enter (cc := b_C_markFaults) (maxL := 6) (ret := none) (by decide) rfl (Nat.le_of_ble_eq_true rfl) ?_
  intro p e s m below meth c ls S hr hlocks hsz hA hW hK hN hl
  generalize va_A ((wC ad kc nn) σ) sz = A at hA hW ⊢
  generalize ([.ref (ad 6), .ref (ad 3), .ref (ad 4), .int (iI p2)] : List Value).toArray = args at S ⊢
  obtain ⟨hx, hb, hml, hown, hts⟩ := id S
  have hl : lv_has ls 6 [(0, .ref (ad 6)), (1, .ref (ad 3)), (2, .ref (ad 4)), (3, .int (iI p2))] := hl
  unfold wp_C_markFaults at h
  refine lv_iconst (v := iI 0) hx hb dC_markFaults_0 rfl ?_
  refine lv_istore (lv' := [(4, .int (iI 0)), (0, .ref (ad 6)), (1, .ref (ad 3)), (2, .ref (ad 4)), (3, .int (iI p2))]) hx hb dC_markFaults_1 hl (by decide) rfl (fun ls hl => ?_)
  obtain ⟨Pe1, k1, h, hk1⟩ := h
  have xW2 : ∀ (v2 : Int) (s2 : kM) (H : Heap) (locs : List Loc) (ls : Array Slot), kW (dC, dI) vwC A s.heap (wC ad kc nn s2) H locs → lv_has ls 6 [(0, .ref (ad 6)), (1, .ref (ad 3)), (2, .ref (ad 4)), (3, .int (iI p2))] → Pe1 v2 s2 → W p l e (headSpec ws_C_markFaults rm_C_markFaults).room s m args below meth c H locs 0 0 (MQ below (kQv (dC, dI) vwC (wC ad kc nn) P A) args s 0 0 A) (F0 m 26 ls []) := by
    intro v2 s2 H locs ls hW hl h
    have h := hk1 v2 s2 h
    refine lv_iconst (v := iI 0) hx hb dC_markFaults_26 rfl ?_
    refine lv_istore (lv' := [(4, .int (iI 0)), (0, .ref (ad 6)), (1, .ref (ad 3)), (2, .ref (ad 4)), (3, .int (iI p2))]) hx hb dC_markFaults_27 hl (by decide) rfl (fun ls hl => ?_)
    obtain ⟨Pe2, k2, h, hk2⟩ := h
    have xW1 : ∀ (v4 : Int) (s4 : kM) (H : Heap) (locs : List Loc) (ls : Array Slot), kW (dC, dI) vwC A s.heap (wC ad kc nn s4) H locs → lv_has ls 6 [] → Pe2 v4 s4 → W p l e (headSpec ws_C_markFaults rm_C_markFaults).room s m args below meth c H locs 0 0 (MQ below (kQv (dC, dI) vwC (wC ad kc nn) P A) args s 0 0 A) (F0 m 88 ls []) := by
      intro v4 s4 H locs ls hW hl h
      have h := hk2 v4 s4 h
      exact k_vret hx hb hr hlocks hW dC_markFaults_88 h
    have lW1 : ∀ (ki1 : Nat) (v3 : Int) (s3 : kM) (H : Heap) (locs : List Loc) (ls : Array Slot), kW (dC, dI) vwC A s.heap (wC ad kc nn s3) H locs → lv_has ls 6 [(4, .int (iI v3)), (0, .ref (ad 6)), (1, .ref (ad 3)), (2, .ref (ad 4)), (3, .int (iI p2))] → lp_C_markFaults_29 nn p2 Pe2 ki1 v3 s3 → W p l e (headSpec ws_C_markFaults rm_C_markFaults).room s m args below meth c H locs 0 0 (MQ below (kQv (dC, dI) vwC (wC ad kc nn) P A) args s 0 0 A) (F0 m 29 ls []) := by
      intro ki1
      induction ki1 with
      | zero => intro v3 s3 H locs ls hW hl h; exact h.elim
      | succ ki1 ih1 =>
        intro v3 s3 H locs ls hW hl h
        have h : lpB_C_markFaults_29 nn p2 Pe2 (lp_C_markFaults_29 nn p2 Pe2 ki1) v3 s3 := h
        unfold lpB_C_markFaults_29 at h
        refine lv_iload hx hb dC_markFaults_29 (lv_at hl 0 rfl) ?_
        refine lv_aload_n hx hb dC_markFaults_31 rfl (lv_at hl 3 rfl) ?_
        refine kc_vp (As := []) (rest := [.int (iI v3)]) (ci := 4) (q0 := 4) S (c_F_count l dC dI ad kc nn s3 (P := fun r => (s3 4 3) = r) rfl) (cwV 0 hts (gV mw_611 mw_612 mw_613 mw_6 k_F_count) rfl rfl rfl (by decide +kernel) ⟨Nat.le_of_ble_eq_true rfl, Nat.le_of_ble_eq_true rfl⟩) hK hN hW.1 rfl rfl rfl hl.1 rfl (Nat.le_of_ble_eq_true rfl) dC_markFaults_32 ⟨Nat.zero_le _, Nat.zero_le _⟩ (fun r1 hp => ?_)
        subst hp
        obtain ⟨q1, h⟩ := h
        obtain ⟨q2, h⟩ := h
        obtain ⟨ht, hf⟩ := h
        refine ki_icmp_ge (tgt := 88) hx hb dC_markFaults_35 (by decide) q1 q2 (fun c1 => ?_) (fun c1 => ?_)
        · have h := ht c1
          exact xW1 v3 s3 _ _ ls hW (lv_sub hl [] rfl) h
        · have h := hf c1
          refine lv_aload_n hx hb dC_markFaults_38 rfl (lv_at hl 3 rfl) ?_
          refine lv_aload_n hx hb dC_markFaults_39 rfl (lv_at hl 2 rfl) ?_
          refine lv_iload hx hb dC_markFaults_40 (lv_at hl 0 rfl) ?_
          obtain ⟨P1, g1, h⟩ := h
          refine kc_vp (As := [.ref (ad 3), .int (iI v3)]) (rest := []) (ci := 4) (q0 := 4) S (c_F_placeIn l dC dI ad kc nn s3 v3 g1) (cwV 2 hts (gV mw_615 mw_542 mw_543 mw_6 k_F_placeIn) rfl rfl rfl (by decide +kernel) ⟨Nat.le_of_ble_eq_true rfl, Nat.le_of_ble_eq_true rfl⟩) hK hN hW.1 rfl rfl rfl hl.1 rfl (Nat.le_of_ble_eq_true rfl) dC_markFaults_42 ⟨Nat.zero_le _, Nat.zero_le _⟩ (fun r2 hp => ?_)
          have h := h r2 hp
          refine lv_istore (lv' := [(5, .int (iI r2)), (4, .int (iI v3)), (0, .ref (ad 6)), (1, .ref (ad 3)), (2, .ref (ad 4)), (3, .int (iI p2))]) hx hb dC_markFaults_45 hl (by decide) rfl (fun ls hl => ?_)
          refine lv_iload hx hb dC_markFaults_47 (lv_at hl 0 rfl) ?_
          refine lv_iconst (v := iI (-1)) hx hb dC_markFaults_49 rfl ?_
          obtain ⟨q3, h⟩ := h
          obtain ⟨ht, hf⟩ := h
          refine ki_icmp_eq (tgt := 82) hx hb dC_markFaults_50 (by decide) q3 (by constructor <;> decide) (fun c2 => ?_) (fun c2 => ?_)
          · have h := ht c2
            obtain ⟨v5, ev5⟩ : ∃ z : Int, z = v3 + 1 := ⟨_, rfl⟩
            refine lv_iinc (v := iI v5) (lv' := [(4, .int (iI v5)), (5, .int (iI r2)), (0, .ref (ad 6)), (1, .ref (ad 3)), (2, .ref (ad 4)), (3, .int (iI p2))]) hx hb dC_markFaults_82 hl (k := 1) rfl (by rw [ev5, ← iI_add]; rfl) (by decide) rfl (fun ls hl => ?_)
            have h := h v5 ev5
            refine lv_goto (tgt := 29) hx hb dC_markFaults_85 (by decide) ?_
            exact ih1 v5 s3 _ _ ls hW (lv_sub hl [0, 2, 3, 4, 5] rfl) h
          · have h := hf c2
            refine lv_iload hx hb dC_markFaults_53 (lv_at hl 0 rfl) ?_
            refine lv_iload_n hx hb dC_markFaults_55 rfl (lv_at hl 5 rfl) ?_
            obtain ⟨q4, h⟩ := h
            refine ki_div hx hb dC_markFaults_56 q4 ?_
            refine lv_aload_n hx hb dC_markFaults_57 rfl (lv_at hl 2 rfl) ?_
            refine k_get (ci := 6) (C := R_C) (T := T_C) (N := 10) hx hb hts (fun w q => gG_in (inG_C w q)) hown hK hW.1 6 rfl rfl 6 (by decide) (hts _ (gG_in mw_156)) rfl dC_markFaults_58 ?_
            obtain ⟨q5, h⟩ := h
            obtain ⟨q6, h⟩ := h
            obtain ⟨ht, hf⟩ := h
            refine ki_icmp_ge (tgt := 82) hx hb dC_markFaults_61 (by decide) q5 q6 (fun c3 => ?_) (fun c3 => ?_)
            · have h := ht c3
              obtain ⟨v6, ev6⟩ : ∃ z : Int, z = v3 + 1 := ⟨_, rfl⟩
              refine lv_iinc (v := iI v6) (lv' := [(4, .int (iI v6)), (5, .int (iI r2)), (0, .ref (ad 6)), (1, .ref (ad 3)), (2, .ref (ad 4)), (3, .int (iI p2))]) hx hb dC_markFaults_82 hl (k := 1) rfl (by rw [ev6, ← iI_add]; rfl) (by decide) rfl (fun ls hl => ?_)
              have h := h v6 ev6
              refine lv_goto (tgt := 29) hx hb dC_markFaults_85 (by decide) ?_
              exact ih1 v6 s3 _ _ ls hW (lv_sub hl [0, 2, 3, 4, 5] rfl) h
            · have h := hf c3
              refine lv_aload_n hx hb dC_markFaults_64 rfl (lv_at hl 2 rfl) ?_
              refine k_get (ci := 6) (C := R_C) (T := T_C) (N := 10) hx hb hts (fun w q => gG_in (inG_C w q)) hown hK hW.1 6 rfl rfl 0 (by decide) (hts _ (gG_in mw_150)) rfl dC_markFaults_65 ?_
              refine lv_iload hx hb dC_markFaults_68 (lv_at hl 0 rfl) ?_
              refine lv_iload_n hx hb dC_markFaults_70 rfl (lv_at hl 5 rfl) ?_
              obtain ⟨q7, h⟩ := h
              refine ki_div hx hb dC_markFaults_71 q7 ?_
              refine lv_dup2_11 hx hb dC_markFaults_72 rfl rfl ?_
              obtain ⟨q8, h⟩ := h
              refine k_iald hx hb hK hW.1 19 11 (s3 19) rfl rfl q8 dC_markFaults_73 ?_
              refine lv_aload_n hx hb dC_markFaults_74 rfl (lv_at hl 4 rfl) ?_
              refine lv_iload hx hb dC_markFaults_75 (lv_at hl 1 rfl) ?_
              obtain ⟨P2, g2, h⟩ := h
              refine kc_vp (As := [.int (iI v3)]) (rest := [.int (iI (s3 19 (r2 / p2).toNat)), .int (iI (r2 / p2)), .ref (ad 19)]) (ci := 4) (q0 := 4) S (c_F_kindBit l dC dI ad kc nn s3 v3 g2) (cwV 1 hts (gV mw_616 mw_617 mw_618 mw_6 k_F_kindBit) rfl rfl rfl (by decide +kernel) ⟨Nat.le_of_ble_eq_true rfl, Nat.le_of_ble_eq_true rfl⟩) hK hN hW.1 rfl rfl rfl hl.1 rfl (Nat.le_of_ble_eq_true rfl) dC_markFaults_77 ⟨Nat.zero_le _, Nat.zero_le _⟩ (fun r3 hp => ?_)
              have h := h r3 hp
              refine ki_or hx hb dC_markFaults_80 ?_
              obtain ⟨q9, h⟩ := h
              obtain ⟨s5, es5⟩ : ∃ z : kM, z = va_up s3 19 (va_up (s3 19) (r2 / p2).toNat (kOr (s3 19 (r2 / p2).toNat) r3)) := ⟨_, rfl⟩
              refine k_iast (ws' := wC ad kc nn s5) hx hb hK hW 19 11 (s3 19) rfl rfl q9 (by rw [es5]; exact wC_a19 ..) dC_markFaults_81 (fun H locs hW => ?_)
              have h := h s5 es5
              obtain ⟨v7, ev7⟩ : ∃ z : Int, z = v3 + 1 := ⟨_, rfl⟩
              refine lv_iinc (v := iI v7) (lv' := [(4, .int (iI v7)), (5, .int (iI r2)), (0, .ref (ad 6)), (1, .ref (ad 3)), (2, .ref (ad 4)), (3, .int (iI p2))]) hx hb dC_markFaults_82 hl (k := 1) rfl (by rw [ev7, ← iI_add]; rfl) (by decide) rfl (fun ls hl => ?_)
              have h := h v7 ev7
              refine lv_goto (tgt := 29) hx hb dC_markFaults_85 (by decide) ?_
              exact ih1 v7 s5 _ _ ls hW (lv_sub hl [0, 2, 3, 4, 5] rfl) h
    exact lW1 k2 0 s2 _ _ ls hW (lv_sub hl [0, 1, 2, 3, 4] rfl) h
  have lW2 : ∀ (ki2 : Nat) (v1 : Int) (s1 : kM) (H : Heap) (locs : List Loc) (ls : Array Slot), kW (dC, dI) vwC A s.heap (wC ad kc nn s1) H locs → lv_has ls 6 [(4, .int (iI v1)), (0, .ref (ad 6)), (1, .ref (ad 3)), (2, .ref (ad 4)), (3, .int (iI p2))] → lp_C_markFaults_3 nn Pe1 ki2 v1 s1 → W p l e (headSpec ws_C_markFaults rm_C_markFaults).room s m args below meth c H locs 0 0 (MQ below (kQv (dC, dI) vwC (wC ad kc nn) P A) args s 0 0 A) (F0 m 3 ls []) := by
    intro ki2
    induction ki2 with
    | zero => intro v1 s1 H locs ls hW hl h; exact h.elim
    | succ ki2 ih2 =>
      intro v1 s1 H locs ls hW hl h
      have h : lpB_C_markFaults_3 nn Pe1 (lp_C_markFaults_3 nn Pe1 ki2) v1 s1 := h
      unfold lpB_C_markFaults_3 at h
      refine lv_iload hx hb dC_markFaults_3 (lv_at hl 0 rfl) ?_
      refine lv_aload_n hx hb dC_markFaults_5 rfl (lv_at hl 1 rfl) ?_
      refine k_get (ci := 6) (C := R_C) (T := T_C) (N := 10) hx hb hts (fun w q => gG_in (inG_C w q)) hown hK hW.1 6 rfl rfl 6 (by decide) (hts _ (gG_in mw_156)) rfl dC_markFaults_6 ?_
      obtain ⟨q10, h⟩ := h
      obtain ⟨q11, h⟩ := h
      obtain ⟨ht, hf⟩ := h
      refine ki_icmp_ge (tgt := 26) hx hb dC_markFaults_9 (by decide) q10 q11 (fun c4 => ?_) (fun c4 => ?_)
      · have h := ht c4
        exact xW2 v1 s1 _ _ ls hW (lv_sub hl [1, 2, 3, 4] rfl) h
      · have h := hf c4
        refine lv_aload_n hx hb dC_markFaults_12 rfl (lv_at hl 1 rfl) ?_
        refine k_get (ci := 6) (C := R_C) (T := T_C) (N := 10) hx hb hts (fun w q => gG_in (inG_C w q)) hown hK hW.1 6 rfl rfl 0 (by decide) (hts _ (gG_in mw_150)) rfl dC_markFaults_13 ?_
        refine lv_iload hx hb dC_markFaults_16 (lv_at hl 0 rfl) ?_
        refine lv_iconst (v := iI 0) hx hb dC_markFaults_18 rfl ?_
        obtain ⟨q12, h⟩ := h
        obtain ⟨s6, es6⟩ : ∃ z : kM, z = va_up s1 19 (va_up (s1 19) v1.toNat 0) := ⟨_, rfl⟩
        refine k_iast (ws' := wC ad kc nn s6) hx hb hK hW 19 11 (s1 19) rfl rfl q12 (by rw [es6]; exact wC_a19 ..) dC_markFaults_19 (fun H locs hW => ?_)
        have h := h s6 es6
        obtain ⟨v8, ev8⟩ : ∃ z : Int, z = v1 + 1 := ⟨_, rfl⟩
        refine lv_iinc (v := iI v8) (lv' := [(4, .int (iI v8)), (0, .ref (ad 6)), (1, .ref (ad 3)), (2, .ref (ad 4)), (3, .int (iI p2))]) hx hb dC_markFaults_20 hl (k := 0) rfl (by rw [ev8, ← iI_add]; rfl) (by decide) rfl (fun ls hl => ?_)
        have h := h v8 ev8
        refine lv_goto (tgt := 3) hx hb dC_markFaults_23 (by decide) ?_
        exact ih2 v8 s6 _ _ ls hW (lv_sub hl [0, 1, 2, 3, 4] rfl) h
  exact lW2 k1 0 σ _ _ ls hW (lv_sub hl [0, 1, 2, 3, 4] rfl) h
abbrev rm_L_count : Room := { frames := 0, cells := 0, slots := 0, locals := 0 }
set_option maxHeartbeats 4000000 in
set_option maxRecDepth 100000 in
theorem c_L_count (l : Launch) (dC : Nat → ClassId) (dI : Nat → Nat → Nat) (ad : Nat → Nat) (kc : Nat → ClassId) (nn : Nat → Nat) (σ : kM) {P : Int → Prop} (h : wp_L_count nn σ P) : kMp l y_L_count ws_L_count rm_L_count (dC, dI) vwC (tyC kc) (wC ad kc nn) nsG σ [.ref (ad 5)] P := by
  refine k_enterP (cc := b_L_count) (maxL := 1) (ret := (some .int)) (by decide) rfl (Nat.le_of_ble_eq_true rfl) ?_
  intro p e s m below meth c ls S hr hlocks hP hK hN hl
  generalize ([.ref (ad 5)] : List Value).toArray = args at S ⊢
  obtain ⟨hx, hb, hml, hown, hts⟩ := id S
  have hl : lv_has ls 1 [(0, .ref (ad 5))] := hl
  unfold wp_L_count at h
  refine lv_aload_n hx hb dL_count_0 rfl (lv_at hl 0 rfl) ?_
  refine k_get (ci := 5) (C := R_L) (T := T_L) (N := 4) hx hb hts (fun w q => gG_in (inG_L w q)) hown hK hP 5 rfl rfl 3 (by decide) (hts _ (gG_in mw_134)) rfl dL_count_1 ?_
  exact k_iretP hx hb hr hlocks dL_count_4 h
abbrev rm_L_width : Room := { frames := 0, cells := 0, slots := 0, locals := 0 }
set_option maxHeartbeats 4000000 in
set_option maxRecDepth 100000 in
theorem c_L_width (l : Launch) (dC : Nat → ClassId) (dI : Nat → Nat → Nat) (ad : Nat → Nat) (kc : Nat → ClassId) (nn : Nat → Nat) (σ : kM) (p0 : Int) {P : Int → Prop} (h : wp_L_width nn σ p0 P) : kMp l y_L_width ws_L_width rm_L_width (dC, dI) vwC (tyC kc) (wC ad kc nn) nsG σ [.ref (ad 5), .int (iI p0)] P := by
  refine k_enterP (cc := b_L_width) (maxL := 2) (ret := (some .int)) (by decide) rfl (Nat.le_of_ble_eq_true rfl) ?_
  intro p e s m below meth c ls S hr hlocks hP hK hN hl
  generalize ([.ref (ad 5), .int (iI p0)] : List Value).toArray = args at S ⊢
  obtain ⟨hx, hb, hml, hown, hts⟩ := id S
  have hl : lv_has ls 2 [(0, .ref (ad 5)), (1, .int (iI p0))] := hl
  unfold wp_L_width at h
  refine lv_aload_n hx hb dL_width_0 rfl (lv_at hl 0 rfl) ?_
  refine k_get (ci := 5) (C := R_L) (T := T_L) (N := 4) hx hb hts (fun w q => gG_in (inG_L w q)) hown hK hP 5 rfl rfl 0 (by decide) (hts _ (gG_in mw_131)) rfl dL_width_1 ?_
  refine lv_iload_n hx hb dL_width_4 rfl (lv_at hl 1 rfl) ?_
  obtain ⟨q1, h⟩ := h
  refine k_iald hx hb hK hP 16 8 (σ 16) rfl rfl q1 dL_width_5 ?_
  exact k_iretP hx hb hr hlocks dL_width_6 h
abbrev rm_L_worth : Room := { frames := 0, cells := 0, slots := 0, locals := 0 }
set_option maxHeartbeats 4000000 in
set_option maxRecDepth 100000 in
theorem c_L_worth (l : Launch) (dC : Nat → ClassId) (dI : Nat → Nat → Nat) (ad : Nat → Nat) (kc : Nat → ClassId) (nn : Nat → Nat) (σ : kM) (p0 : Int) {P : Int → Prop} (h : wp_L_worth nn σ p0 P) : kMp l y_L_worth ws_L_worth rm_L_worth (dC, dI) vwC (tyC kc) (wC ad kc nn) nsG σ [.ref (ad 5), .int (iI p0)] P := by
  refine k_enterP (cc := b_L_worth) (maxL := 2) (ret := (some .int)) (by decide) rfl (Nat.le_of_ble_eq_true rfl) ?_
  intro p e s m below meth c ls S hr hlocks hP hK hN hl
  generalize ([.ref (ad 5), .int (iI p0)] : List Value).toArray = args at S ⊢
  obtain ⟨hx, hb, hml, hown, hts⟩ := id S
  have hl : lv_has ls 2 [(0, .ref (ad 5)), (1, .int (iI p0))] := hl
  unfold wp_L_worth at h
  refine lv_aload_n hx hb dL_worth_0 rfl (lv_at hl 0 rfl) ?_
  refine k_get (ci := 5) (C := R_L) (T := T_L) (N := 4) hx hb hts (fun w q => gG_in (inG_L w q)) hown hK hP 5 rfl rfl 1 (by decide) (hts _ (gG_in mw_132)) rfl dL_worth_1 ?_
  refine lv_iload_n hx hb dL_worth_4 rfl (lv_at hl 1 rfl) ?_
  obtain ⟨q1, h⟩ := h
  refine k_iald hx hb hK hP 17 9 (σ 17) rfl rfl q1 dL_worth_5 ?_
  exact k_iretP hx hb hr hlocks dL_worth_6 h
abbrev rm_C_tryLeaf : Room := { frames := 0, cells := 0, slots := 0, locals := 0 }
set_option maxHeartbeats 4000000 in
set_option maxRecDepth 100000 in
theorem c_C_tryLeaf (l : Launch) (dC : Nat → ClassId) (dI : Nat → Nat → Nat) (ad : Nat → Nat) (kc : Nat → ClassId) (nn : Nat → Nat) (σ : kM) (p0 : Int) (p1 : Int) (p2 : Int) {P : kM → Prop} (h : wp_C_tryLeaf nn σ p0 p1 p2 P) : kMv l y_C_tryLeaf ws_C_tryLeaf rm_C_tryLeaf (dC, dI) vwC (tyC kc) (wC ad kc nn) nsG σ [.ref (ad 6), .int (iI p0), .int (iI p1), .long (lI p2)] P := by
  intro sz
  refine k_enter (cc := b_C_tryLeaf) (maxL := 5) (ret := none) (by decide) rfl (Nat.le_of_ble_eq_true rfl) ?_
  intro p e s m below meth c ls S hr hlocks hsz hA hW hK hN hl
  generalize va_A ((wC ad kc nn) σ) sz = A at hA hW ⊢
  generalize ([.ref (ad 6), .int (iI p0), .int (iI p1), .long (lI p2)] : List Value).toArray = args at S ⊢
  obtain ⟨hx, hb, hml, hown, hts⟩ := id S
  have hl : lv_has ls 5 [(0, .ref (ad 6)), (1, .int (iI p0)), (2, .int (iI p1)), (3, .long (lI p2))] := hl
  unfold wp_C_tryLeaf at h
  refine lv_lload_n hx hb dC_tryLeaf_0 rfl (lv_at hl 3 rfl) ?_
  refine lv_aload_n hx hb dC_tryLeaf_1 rfl (lv_at hl 0 rfl) ?_
  refine k_get (ci := 6) (C := R_C) (T := T_C) (N := 10) hx hb hts (fun w q => gG_in (inG_C w q)) hown hK hW.1 6 rfl rfl 1 (by decide) (hts _ (gG_in mw_151)) rfl dC_tryLeaf_2 ?_
  refine lv_iload_n hx hb dC_tryLeaf_5 rfl (lv_at hl 1 rfl) ?_
  obtain ⟨q1, h⟩ := h
  refine k_lald hx hb hK hW.1 20 12 (σ 20) rfl rfl q1 dC_tryLeaf_6 ?_
  obtain ⟨q2, h⟩ := h
  refine kl_cmp hx hb q2.1 q2.2 dC_tryLeaf_7 ?_
  obtain ⟨ht, hf⟩ := h
  refine ki_if_lt (tgt := 25) hx hb dC_tryLeaf_8 (by decide) (by constructor <;> (repeat' split) <;> decide) (fun c1 => ?_) (fun c1 => ?_)
  · have h := ht c1
    exact k_vret hx hb hr hlocks hW dC_tryLeaf_25 h
  · have h := hf c1
    refine lv_aload_n hx hb dC_tryLeaf_11 rfl (lv_at hl 0 rfl) ?_
    refine k_get (ci := 6) (C := R_C) (T := T_C) (N := 10) hx hb hts (fun w q => gG_in (inG_C w q)) hown hK hW.1 6 rfl rfl 1 (by decide) (hts _ (gG_in mw_151)) rfl dC_tryLeaf_12 ?_
    refine lv_iload_n hx hb dC_tryLeaf_15 rfl (lv_at hl 1 rfl) ?_
    refine lv_lload_n hx hb dC_tryLeaf_16 rfl (lv_at hl 3 rfl) ?_
    obtain ⟨q3, h⟩ := h
    obtain ⟨s1, es1⟩ : ∃ z : kM, z = va_up σ 20 (va_up (σ 20) p0.toNat p2) := ⟨_, rfl⟩
    refine k_last (ws' := wC ad kc nn s1) hx hb hK hW 20 12 (σ 20) rfl rfl q3 (by rw [es1]; exact wC_a20 ..) dC_tryLeaf_17 (fun H locs hW => ?_)
    have h := h s1 es1
    refine lv_aload_n hx hb dC_tryLeaf_18 rfl (lv_at hl 0 rfl) ?_
    refine k_get (ci := 6) (C := R_C) (T := T_C) (N := 10) hx hb hts (fun w q => gG_in (inG_C w q)) hown hK hW.1 6 rfl rfl 2 (by decide) (hts _ (gG_in mw_152)) rfl dC_tryLeaf_19 ?_
    refine lv_iload_n hx hb dC_tryLeaf_22 rfl (lv_at hl 1 rfl) ?_
    refine lv_iload_n hx hb dC_tryLeaf_23 rfl (lv_at hl 2 rfl) ?_
    obtain ⟨q4, h⟩ := h
    obtain ⟨s2, es2⟩ : ∃ z : kM, z = va_up s1 21 (va_up (s1 21) p0.toNat p1) := ⟨_, rfl⟩
    refine k_iast (ws' := wC ad kc nn s2) hx hb hK hW 21 13 (s1 21) rfl rfl q4 (by rw [es2]; exact wC_a21 ..) dC_tryLeaf_24 (fun H locs hW => ?_)
    have h := h s2 es2
    exact k_vret hx hb hr hlocks hW dC_tryLeaf_25 h
abbrev rm_C_chooseAt : Room := { frames := 1, cells := 0, slots := 0, locals := 24 }
set_option maxHeartbeats 4000000 in
set_option maxRecDepth 100000 in
theorem c_C_chooseAt (l : Launch) (dC : Nat → ClassId) (dI : Nat → Nat → Nat) (ad : Nat → Nat) (kc : Nat → ClassId) (nn : Nat → Nat) (σ : kM) (p0 : Int) {P : kM → Prop} (h : wp_C_chooseAt nn σ p0 P) : kMv l y_C_chooseAt ws_C_chooseAt rm_C_chooseAt (dC, dI) vwC (tyC kc) (wC ad kc nn) nsG σ [.ref (ad 6), .int (iI p0), .ref (ad 5)] P := by
  intro sz
  refine k_enter (cc := b_C_chooseAt) (maxL := 5) (ret := none) (by decide) rfl (Nat.le_of_ble_eq_true rfl) ?_
  intro p e s m below meth c ls S hr hlocks hsz hA hW hK hN hl
  generalize va_A ((wC ad kc nn) σ) sz = A at hA hW ⊢
  generalize ([.ref (ad 6), .int (iI p0), .ref (ad 5)] : List Value).toArray = args at S ⊢
  obtain ⟨hx, hb, hml, hown, hts⟩ := id S
  have hl : lv_has ls 5 [(0, .ref (ad 6)), (1, .int (iI p0)), (2, .ref (ad 5))] := hl
  unfold wp_C_chooseAt at h
  refine lv_aload_n hx hb dC_chooseAt_0 rfl (lv_at hl 0 rfl) ?_
  refine k_get (ci := 6) (C := R_C) (T := T_C) (N := 10) hx hb hts (fun w q => gG_in (inG_C w q)) hown hK hW.1 6 rfl rfl 1 (by decide) (hts _ (gG_in mw_151)) rfl dC_chooseAt_1 ?_
  refine lv_iload_n hx hb dC_chooseAt_4 rfl (lv_at hl 1 rfl) ?_
  refine lv_aload_n hx hb dC_chooseAt_5 rfl (lv_at hl 0 rfl) ?_
  refine k_get (ci := 6) (C := R_C) (T := T_C) (N := 10) hx hb hts (fun w q => gG_in (inG_C w q)) hown hK hW.1 6 rfl rfl 1 (by decide) (hts _ (gG_in mw_151)) rfl dC_chooseAt_6 ?_
  refine lv_iload_n hx hb dC_chooseAt_9 rfl (lv_at hl 1 rfl) ?_
  refine lv_iconst (v := iI 1) hx hb dC_chooseAt_10 rfl ?_
  refine ki_add hx hb dC_chooseAt_11 ?_
  obtain ⟨q1, h⟩ := h
  refine k_lald hx hb hK hW.1 20 12 (σ 20) rfl rfl q1 dC_chooseAt_12 ?_
  refine lv_lconst (v := lI 1) hx hb dC_chooseAt_13 (by decide) ?_
  refine kl_sub hx hb dC_chooseAt_14 ?_
  obtain ⟨q2, h⟩ := h
  obtain ⟨s1, es1⟩ : ∃ z : kM, z = va_up σ 20 (va_up (σ 20) p0.toNat ((σ 20 (p0 + 1).toNat) - 1)) := ⟨_, rfl⟩
  refine k_last (ws' := wC ad kc nn s1) hx hb hK hW 20 12 (σ 20) rfl rfl q2 (by rw [es1]; exact wC_a20 ..) dC_chooseAt_15 (fun H locs hW => ?_)
  have h := h s1 es1
  refine lv_aload_n hx hb dC_chooseAt_16 rfl (lv_at hl 0 rfl) ?_
  refine k_get (ci := 6) (C := R_C) (T := T_C) (N := 10) hx hb hts (fun w q => gG_in (inG_C w q)) hown hK hW.1 6 rfl rfl 2 (by decide) (hts _ (gG_in mw_152)) rfl dC_chooseAt_17 ?_
  refine lv_iload_n hx hb dC_chooseAt_20 rfl (lv_at hl 1 rfl) ?_
  refine lv_iconst (v := iI (-1)) hx hb dC_chooseAt_21 rfl ?_
  obtain ⟨q3, h⟩ := h
  obtain ⟨s2, es2⟩ : ∃ z : kM, z = va_up s1 21 (va_up (s1 21) p0.toNat (-1)) := ⟨_, rfl⟩
  refine k_iast (ws' := wC ad kc nn s2) hx hb hK hW 21 13 (s1 21) rfl rfl q3 (by rw [es2]; exact wC_a21 ..) dC_chooseAt_22 (fun H locs hW => ?_)
  have h := h s2 es2
  refine lv_aload_n hx hb dC_chooseAt_23 rfl (lv_at hl 2 rfl) ?_
  refine kc_vp (As := []) (rest := []) (ci := 5) (q0 := 5) S (c_L_count l dC dI ad kc nn s2 (P := fun r => (s2 5 3) = r) rfl) (cwV 0 hts (gV mw_624 mw_625 mw_626 mw_7 k_L_count) rfl rfl rfl (by decide +kernel) ⟨Nat.le_of_ble_eq_true rfl, Nat.le_of_ble_eq_true rfl⟩) hK hN hW.1 rfl rfl rfl hl.1 rfl (Nat.le_of_ble_eq_true rfl) dC_chooseAt_24 ⟨Nat.zero_le _, Nat.zero_le _⟩ (fun r1 hp => ?_)
  subst hp
  refine lv_iconst (v := iI 1) hx hb dC_chooseAt_27 rfl ?_
  refine ki_sub hx hb dC_chooseAt_28 ?_
  refine ki_nm (fun v1 ev1 => ?_)
  have h := h v1 ev1
  refine lv_istore_n (lv' := [(3, .int (iI v1)), (0, .ref (ad 6)), (1, .int (iI p0)), (2, .ref (ad 5))]) hx hb dC_chooseAt_29 rfl hl (by decide) rfl (fun ls hl => ?_)
  obtain ⟨Pe1, k1, h, hk1⟩ := h
  have xW1 : ∀ (v3 : Int) (s4 : kM) (H : Heap) (locs : List Loc) (ls : Array Slot), kW (dC, dI) vwC A s.heap (wC ad kc nn s4) H locs → lv_has ls 5 [] → Pe1 v3 s4 → W p l e (headSpec ws_C_chooseAt rm_C_chooseAt).room s m args below meth c H locs 0 0 (MQ below (kQv (dC, dI) vwC (wC ad kc nn) P A) args s 0 0 A) (F0 m 105 ls []) := by
    intro v3 s4 H locs ls hW hl h
    have h := hk1 v3 s4 h
    exact k_vret hx hb hr hlocks hW dC_chooseAt_105 h
  have lW1 : ∀ (ki1 : Nat) (v2 : Int) (s3 : kM) (H : Heap) (locs : List Loc) (ls : Array Slot), kW (dC, dI) vwC A s.heap (wC ad kc nn s3) H locs → lv_has ls 5 [(3, .int (iI v2)), (0, .ref (ad 6)), (1, .int (iI p0)), (2, .ref (ad 5))] → lp_C_chooseAt_30 nn p0 Pe1 ki1 v2 s3 → W p l e (headSpec ws_C_chooseAt rm_C_chooseAt).room s m args below meth c H locs 0 0 (MQ below (kQv (dC, dI) vwC (wC ad kc nn) P A) args s 0 0 A) (F0 m 30 ls []) := by
    intro ki1
    induction ki1 with
    | zero => intro v2 s3 H locs ls hW hl h; exact h.elim
    | succ ki1 ih1 =>
      intro v2 s3 H locs ls hW hl h
      have h : lpB_C_chooseAt_30 nn p0 Pe1 (lp_C_chooseAt_30 nn p0 Pe1 ki1) v2 s3 := h
      unfold lpB_C_chooseAt_30 at h
      refine lv_iload_n hx hb dC_chooseAt_30 rfl (lv_at hl 0 rfl) ?_
      obtain ⟨q4, h⟩ := h
      obtain ⟨ht, hf⟩ := h
      refine ki_if_lt (tgt := 105) hx hb dC_chooseAt_31 (by decide) q4 (fun c1 => ?_) (fun c1 => ?_)
      · have h := ht c1
        exact xW1 v2 s3 _ _ ls hW (lv_sub hl [] rfl) h
      · have h := hf c1
        refine lv_aload_n hx hb dC_chooseAt_34 rfl (lv_at hl 3 rfl) ?_
        refine lv_iload_n hx hb dC_chooseAt_35 rfl (lv_at hl 0 rfl) ?_
        refine lv_aload_n hx hb dC_chooseAt_36 rfl (lv_at hl 1 rfl) ?_
        refine k_get (ci := 6) (C := R_C) (T := T_C) (N := 10) hx hb hts (fun w q => gG_in (inG_C w q)) hown hK hW.1 6 rfl rfl 0 (by decide) (hts _ (gG_in mw_150)) rfl dC_chooseAt_37 ?_
        refine lv_iload_n hx hb dC_chooseAt_40 rfl (lv_at hl 2 rfl) ?_
        obtain ⟨q5, h⟩ := h
        refine k_iald hx hb hK hW.1 19 11 (s3 19) rfl rfl q5 dC_chooseAt_41 ?_
        obtain ⟨P1, g1, h⟩ := h
        refine kc_vp (As := [.int (iI v2), .int (iI (s3 19 p0.toNat))]) (rest := []) (ci := 5) (q0 := 5) S (c_L_barsAny l dC dI ad kc nn s3 v2 (s3 19 p0.toNat) g1) (cwV 2 hts (gV mw_632 mw_586 mw_587 mw_7 k_L_barsAny) rfl rfl rfl (by decide +kernel) ⟨Nat.le_of_ble_eq_true rfl, Nat.le_of_ble_eq_true rfl⟩) hK hN hW.1 rfl rfl rfl hl.1 rfl (Nat.le_of_ble_eq_true rfl) dC_chooseAt_42 ⟨Nat.zero_le _, Nat.zero_le _⟩ (fun r2 hp => ?_)
        have h := h r2 hp
        obtain ⟨q6, h⟩ := h
        have jW1 : ∀ (s5 : kM) (H : Heap) (locs : List Loc) (ls : Array Slot), kW (dC, dI) vwC A s.heap (wC ad kc nn s5) H locs → lv_has ls 5 [(3, .int (iI v2)), (0, .ref (ad 6)), (1, .int (iI p0)), (2, .ref (ad 5))] → jn_C_chooseAt_55 nn p0 v2 (lp_C_chooseAt_30 nn p0 Pe1 ki1) s5 → W p l e (headSpec ws_C_chooseAt rm_C_chooseAt).room s m args below meth c H locs 0 0 (MQ below (kQv (dC, dI) vwC (wC ad kc nn) P A) args s 0 0 A) (F0 m 55 ls []) := by
          intro s5 H locs ls hW hl h
          unfold jn_C_chooseAt_55 at h
          refine lv_iload_n hx hb dC_chooseAt_55 rfl (lv_at hl 2 rfl) ?_
          refine lv_aload_n hx hb dC_chooseAt_56 rfl (lv_at hl 3 rfl) ?_
          refine lv_iload_n hx hb dC_chooseAt_57 rfl (lv_at hl 0 rfl) ?_
          obtain ⟨P2, g2, h⟩ := h
          refine kc_vp (As := [.int (iI v2)]) (rest := [.int (iI p0)]) (ci := 5) (q0 := 5) S (c_L_width l dC dI ad kc nn s5 v2 g2) (cwV 1 hts (gV mw_633 mw_634 mw_635 mw_7 k_L_width) rfl rfl rfl (by decide +kernel) ⟨Nat.le_of_ble_eq_true rfl, Nat.le_of_ble_eq_true rfl⟩) hK hN hW.1 rfl rfl rfl hl.1 rfl (Nat.le_of_ble_eq_true rfl) dC_chooseAt_58 ⟨Nat.zero_le _, Nat.zero_le _⟩ (fun r3 hp => ?_)
          have h := h r3 hp
          refine ki_add hx hb dC_chooseAt_61 ?_
          refine ki_nm (fun v4 ev4 => ?_)
          have h := h v4 ev4
          refine lv_istore (lv' := [(4, .int (iI v4)), (3, .int (iI v2)), (0, .ref (ad 6)), (1, .int (iI p0)), (2, .ref (ad 5))]) hx hb dC_chooseAt_62 hl (by decide) rfl (fun ls hl => ?_)
          refine lv_iload hx hb dC_chooseAt_64 (lv_at hl 0 rfl) ?_
          refine lv_aload_n hx hb dC_chooseAt_66 rfl (lv_at hl 2 rfl) ?_
          refine k_get (ci := 6) (C := R_C) (T := T_C) (N := 10) hx hb hts (fun w q => gG_in (inG_C w q)) hown hK hW.1 6 rfl rfl 4 (by decide) (hts _ (gG_in mw_154)) rfl dC_chooseAt_67 ?_
          refine lv_iload_n hx hb dC_chooseAt_70 rfl (lv_at hl 1 rfl) ?_
          obtain ⟨q7, h⟩ := h
          refine k_iald hx hb hK hW.1 23 15 (s5 23) rfl rfl q7 dC_chooseAt_71 ?_
          obtain ⟨q8, h⟩ := h
          obtain ⟨q9, h⟩ := h
          obtain ⟨ht, hf⟩ := h
          refine ki_icmp_gt (tgt := 99) hx hb dC_chooseAt_72 (by decide) q8 q9 (fun c2 => ?_) (fun c2 => ?_)
          · have h := ht c2
            obtain ⟨v5, ev5⟩ : ∃ z : Int, z = v2 + (-1) := ⟨_, rfl⟩
            refine lv_iinc (v := iI v5) (lv' := [(3, .int (iI v5)), (4, .int (iI v4)), (0, .ref (ad 6)), (1, .int (iI p0)), (2, .ref (ad 5))]) hx hb dC_chooseAt_99 hl (k := 1) rfl (by rw [ev5, ← iI_add]; rfl) (by decide) rfl (fun ls hl => ?_)
            have h := h v5 ev5
            refine lv_goto (tgt := 30) hx hb dC_chooseAt_102 (by decide) ?_
            exact ih1 v5 s5 _ _ ls hW (lv_sub hl [0, 2, 3, 4] rfl) h
          · have h := hf c2
            refine lv_aload_n hx hb dC_chooseAt_75 rfl (lv_at hl 2 rfl) ?_
            refine lv_iload_n hx hb dC_chooseAt_76 rfl (lv_at hl 3 rfl) ?_
            refine lv_iload_n hx hb dC_chooseAt_77 rfl (lv_at hl 1 rfl) ?_
            refine lv_aload_n hx hb dC_chooseAt_78 rfl (lv_at hl 4 rfl) ?_
            refine lv_iload_n hx hb dC_chooseAt_79 rfl (lv_at hl 1 rfl) ?_
            obtain ⟨P3, g3, h⟩ := h
            refine kc_vp (As := [.int (iI v2)]) (rest := [.int (iI v2), .int (iI p0), .ref (ad 6)]) (ci := 5) (q0 := 5) S (c_L_worth l dC dI ad kc nn s5 v2 g3) (cwV 1 hts (gV mw_637 mw_638 mw_639 mw_7 k_L_worth) rfl rfl rfl (by decide +kernel) ⟨Nat.le_of_ble_eq_true rfl, Nat.le_of_ble_eq_true rfl⟩) hK hN hW.1 rfl rfl rfl hl.1 rfl (Nat.le_of_ble_eq_true rfl) dC_chooseAt_80 ⟨Nat.zero_le _, Nat.zero_le _⟩ (fun r4 hp => ?_)
            have h := h r4 hp
            obtain ⟨q10, h⟩ := h
            refine ki_i2l hx hb dC_chooseAt_83 q10 ?_
            refine lv_ldc2 (v := lI 2001) hx hb hown (hts _ (gG_in mc_641)) dC_chooseAt_84 ?_
            refine kl_mul hx hb dC_chooseAt_87 ?_
            refine lv_aload_n hx hb dC_chooseAt_88 rfl (lv_at hl 2 rfl) ?_
            refine k_get (ci := 6) (C := R_C) (T := T_C) (N := 10) hx hb hts (fun w q => gG_in (inG_C w q)) hown hK hW.1 6 rfl rfl 1 (by decide) (hts _ (gG_in mw_151)) rfl dC_chooseAt_89 ?_
            refine lv_iload hx hb dC_chooseAt_92 (lv_at hl 0 rfl) ?_
            obtain ⟨q11, h⟩ := h
            refine k_lald hx hb hK hW.1 20 12 (s5 20) rfl rfl q11 dC_chooseAt_94 ?_
            refine kl_add hx hb dC_chooseAt_95 ?_
            obtain ⟨P4, g4, h⟩ := h
            refine kc_vv (As := [.int (iI p0), .int (iI v2), .long (lI ((r4 * 2001) + (s5 20 v4.toNat)))]) (rest := []) (ci := 6) (q0 := 6) S (c_C_tryLeaf l dC dI ad kc nn s5 p0 v2 ((r4 * 2001) + (s5 20 v4.toNat)) g4) (cwV 3 hts (gV mw_642 mw_644 ps_16 mw_8 k_C_tryLeaf) rfl rfl rfl (by decide +kernel) ⟨Nat.le_of_ble_eq_true rfl, Nat.le_of_ble_eq_true rfl⟩) hK hN hA hW (fun _ => rfl) rfl rfl rfl hl.1 rfl (Nat.le_of_ble_eq_true rfl) dC_chooseAt_96 ⟨Nat.zero_le _, Nat.zero_le _⟩ (fun s6 H locs hp hW => ?_)
            have h := h s6 hp
            obtain ⟨v6, ev6⟩ : ∃ z : Int, z = v2 + (-1) := ⟨_, rfl⟩
            refine lv_iinc (v := iI v6) (lv' := [(3, .int (iI v6)), (4, .int (iI v4)), (0, .ref (ad 6)), (1, .int (iI p0)), (2, .ref (ad 5))]) hx hb dC_chooseAt_99 hl (k := 1) rfl (by rw [ev6, ← iI_add]; rfl) (by decide) rfl (fun ls hl => ?_)
            have h := h v6 ev6
            refine lv_goto (tgt := 30) hx hb dC_chooseAt_102 (by decide) ?_
            exact ih1 v6 s6 _ _ ls hW (lv_sub hl [0, 2, 3, 4] rfl) h
        obtain ⟨ht, hf⟩ := h
        refine ki_if_eq (tgt := 55) hx hb dC_chooseAt_45 (by decide) q6 (fun c3 => ?_) (fun c3 => ?_)
        · have h := ht c3
          exact jW1 s3 _ _ ls hW (lv_sub hl [0, 1, 2, 3] rfl) h
        · have h := hf c3
          refine lv_aload_n hx hb dC_chooseAt_48 rfl (lv_at hl 1 rfl) ?_
          refine k_get (ci := 6) (C := R_C) (T := T_C) (N := 10) hx hb hts (fun w q => gG_in (inG_C w q)) hown hK hW.1 6 rfl rfl 4 (by decide) (hts _ (gG_in mw_154)) rfl dC_chooseAt_49 ?_
          refine lv_iload_n hx hb dC_chooseAt_52 rfl (lv_at hl 0 rfl) ?_
          refine lv_iload_n hx hb dC_chooseAt_53 rfl (lv_at hl 2 rfl) ?_
          obtain ⟨q12, h⟩ := h
          obtain ⟨s7, es7⟩ : ∃ z : kM, z = va_up s3 23 (va_up (s3 23) v2.toNat p0) := ⟨_, rfl⟩
          refine k_iast (ws' := wC ad kc nn s7) hx hb hK hW 23 15 (s3 23) rfl rfl q12 (by rw [es7]; exact wC_a23 ..) dC_chooseAt_54 (fun H locs hW => ?_)
          have h := h s7 es7
          exact jW1 s7 _ _ ls hW (lv_sub hl [0, 1, 2, 3] rfl) h
  exact lW1 k1 v1 s2 _ _ ls hW (lv_sub hl [0, 1, 2, 3] rfl) h
abbrev rm_C_chooseFromTheEnd : Room := { frames := 2, cells := 0, slots := 0, locals := 48 }
set_option maxHeartbeats 4000000 in
set_option maxRecDepth 100000 in
theorem c_C_chooseFromTheEnd (l : Launch) (dC : Nat → ClassId) (dI : Nat → Nat → Nat) (ad : Nat → Nat) (kc : Nat → ClassId) (nn : Nat → Nat) (σ : kM) {P : kM → Prop} (h : wp_C_chooseFromTheEnd nn σ P) : kMv l y_C_chooseFromTheEnd ws_C_chooseFromTheEnd rm_C_chooseFromTheEnd (dC, dI) vwC (tyC kc) (wC ad kc nn) nsG σ [.ref (ad 6), .ref (ad 5)] P := by
  intro sz
  refine k_enter (cc := b_C_chooseFromTheEnd) (maxL := 3) (ret := none) (by decide) rfl (Nat.le_of_ble_eq_true rfl) ?_
  intro p e s m below meth c ls S hr hlocks hsz hA hW hK hN hl
  generalize va_A ((wC ad kc nn) σ) sz = A at hA hW ⊢
  generalize ([.ref (ad 6), .ref (ad 5)] : List Value).toArray = args at S ⊢
  obtain ⟨hx, hb, hml, hown, hts⟩ := id S
  have hl : lv_has ls 3 [(0, .ref (ad 6)), (1, .ref (ad 5))] := hl
  unfold wp_C_chooseFromTheEnd at h
  refine lv_iconst (v := iI 0) hx hb dC_chooseFromTheEnd_0 rfl ?_
  refine lv_istore_n (lv' := [(2, .int (iI 0)), (0, .ref (ad 6)), (1, .ref (ad 5))]) hx hb dC_chooseFromTheEnd_1 rfl hl (by decide) rfl (fun ls hl => ?_)
  obtain ⟨Pe1, k1, h, hk1⟩ := h
  have xW2 : ∀ (v2 : Int) (s2 : kM) (H : Heap) (locs : List Loc) (ls : Array Slot), kW (dC, dI) vwC A s.heap (wC ad kc nn s2) H locs → lv_has ls 3 [(0, .ref (ad 6)), (1, .ref (ad 5))] → Pe1 v2 s2 → W p l e (headSpec ws_C_chooseFromTheEnd rm_C_chooseFromTheEnd).room s m args below meth c H locs 0 0 (MQ below (kQv (dC, dI) vwC (wC ad kc nn) P A) args s 0 0 A) (F0 m 26 ls []) := by
    intro v2 s2 H locs ls hW hl h
    have h := hk1 v2 s2 h
    refine lv_aload_n hx hb dC_chooseFromTheEnd_26 rfl (lv_at hl 0 rfl) ?_
    refine k_get (ci := 6) (C := R_C) (T := T_C) (N := 10) hx hb hts (fun w q => gG_in (inG_C w q)) hown hK hW.1 6 rfl rfl 1 (by decide) (hts _ (gG_in mw_151)) rfl dC_chooseFromTheEnd_27 ?_
    refine lv_aload_n hx hb dC_chooseFromTheEnd_30 rfl (lv_at hl 0 rfl) ?_
    refine k_get (ci := 6) (C := R_C) (T := T_C) (N := 10) hx hb hts (fun w q => gG_in (inG_C w q)) hown hK hW.1 6 rfl rfl 6 (by decide) (hts _ (gG_in mw_156)) rfl dC_chooseFromTheEnd_31 ?_
    refine lv_lconst (v := lI 0) hx hb dC_chooseFromTheEnd_34 (by decide) ?_
    obtain ⟨q1, h⟩ := h
    obtain ⟨s3, es3⟩ : ∃ z : kM, z = va_up s2 20 (va_up (s2 20) (s2 6 6).toNat 0) := ⟨_, rfl⟩
    refine k_last (ws' := wC ad kc nn s3) hx hb hK hW 20 12 (s2 20) rfl rfl q1 (by rw [es3]; exact wC_a20 ..) dC_chooseFromTheEnd_35 (fun H locs hW => ?_)
    have h := h s3 es3
    refine lv_aload_n hx hb dC_chooseFromTheEnd_36 rfl (lv_at hl 0 rfl) ?_
    refine k_get (ci := 6) (C := R_C) (T := T_C) (N := 10) hx hb hts (fun w q => gG_in (inG_C w q)) hown hK hW.1 6 rfl rfl 6 (by decide) (hts _ (gG_in mw_156)) rfl dC_chooseFromTheEnd_37 ?_
    refine lv_iconst (v := iI 1) hx hb dC_chooseFromTheEnd_40 rfl ?_
    refine ki_sub hx hb dC_chooseFromTheEnd_41 ?_
    refine ki_nm (fun v3 ev3 => ?_)
    have h := h v3 ev3
    refine lv_istore_n (lv' := [(2, .int (iI v3)), (0, .ref (ad 6)), (1, .ref (ad 5))]) hx hb dC_chooseFromTheEnd_42 rfl hl (by decide) rfl (fun ls hl => ?_)
    obtain ⟨Pe2, k2, h, hk2⟩ := h
    have xW1 : ∀ (v5 : Int) (s5 : kM) (H : Heap) (locs : List Loc) (ls : Array Slot), kW (dC, dI) vwC A s.heap (wC ad kc nn s5) H locs → lv_has ls 3 [] → Pe2 v5 s5 → W p l e (headSpec ws_C_chooseFromTheEnd rm_C_chooseFromTheEnd).room s m args below meth c H locs 0 0 (MQ below (kQv (dC, dI) vwC (wC ad kc nn) P A) args s 0 0 A) (F0 m 59 ls []) := by
      intro v5 s5 H locs ls hW hl h
      have h := hk2 v5 s5 h
      exact k_vret hx hb hr hlocks hW dC_chooseFromTheEnd_59 h
    have lW1 : ∀ (ki1 : Nat) (v4 : Int) (s4 : kM) (H : Heap) (locs : List Loc) (ls : Array Slot), kW (dC, dI) vwC A s.heap (wC ad kc nn s4) H locs → lv_has ls 3 [(2, .int (iI v4)), (0, .ref (ad 6)), (1, .ref (ad 5))] → lp_C_chooseFromTheEnd_43 nn Pe2 ki1 v4 s4 → W p l e (headSpec ws_C_chooseFromTheEnd rm_C_chooseFromTheEnd).room s m args below meth c H locs 0 0 (MQ below (kQv (dC, dI) vwC (wC ad kc nn) P A) args s 0 0 A) (F0 m 43 ls []) := by
      intro ki1
      induction ki1 with
      | zero => intro v4 s4 H locs ls hW hl h; exact h.elim
      | succ ki1 ih1 =>
        intro v4 s4 H locs ls hW hl h
        have h : lpB_C_chooseFromTheEnd_43 nn Pe2 (lp_C_chooseFromTheEnd_43 nn Pe2 ki1) v4 s4 := h
        unfold lpB_C_chooseFromTheEnd_43 at h
        refine lv_iload_n hx hb dC_chooseFromTheEnd_43 rfl (lv_at hl 0 rfl) ?_
        obtain ⟨q2, h⟩ := h
        obtain ⟨ht, hf⟩ := h
        refine ki_if_lt (tgt := 59) hx hb dC_chooseFromTheEnd_44 (by decide) q2 (fun c1 => ?_) (fun c1 => ?_)
        · have h := ht c1
          exact xW1 v4 s4 _ _ ls hW (lv_sub hl [] rfl) h
        · have h := hf c1
          refine lv_aload_n hx hb dC_chooseFromTheEnd_47 rfl (lv_at hl 1 rfl) ?_
          refine lv_iload_n hx hb dC_chooseFromTheEnd_48 rfl (lv_at hl 0 rfl) ?_
          refine lv_aload_n hx hb dC_chooseFromTheEnd_49 rfl (lv_at hl 2 rfl) ?_
          obtain ⟨P1, g1, h⟩ := h
          refine kc_vv (As := [.int (iI v4), .ref (ad 5)]) (rest := []) (ci := 6) (q0 := 6) S (c_C_chooseAt l dC dI ad kc nn s4 v4 g1) (cwV 2 hts (gV mw_628 mw_630 ps_15 mw_8 k_C_chooseAt) rfl rfl rfl (by decide +kernel) ⟨Nat.le_of_ble_eq_true rfl, Nat.le_of_ble_eq_true rfl⟩) hK hN hA hW (fun _ => rfl) rfl rfl rfl hl.1 rfl (Nat.le_of_ble_eq_true rfl) dC_chooseFromTheEnd_50 ⟨Nat.zero_le _, Nat.zero_le _⟩ (fun s6 H locs hp hW => ?_)
          have h := h s6 hp
          obtain ⟨v6, ev6⟩ : ∃ z : Int, z = v4 + (-1) := ⟨_, rfl⟩
          refine lv_iinc (v := iI v6) (lv' := [(2, .int (iI v6)), (0, .ref (ad 6)), (1, .ref (ad 5))]) hx hb dC_chooseFromTheEnd_53 hl (k := 0) rfl (by rw [ev6, ← iI_add]; rfl) (by decide) rfl (fun ls hl => ?_)
          have h := h v6 ev6
          refine lv_goto (tgt := 43) hx hb dC_chooseFromTheEnd_56 (by decide) ?_
          exact ih1 v6 s6 _ _ ls hW (lv_sub hl [0, 1, 2] rfl) h
    exact lW1 k2 v3 s3 _ _ ls hW (lv_sub hl [0, 1, 2] rfl) h
  have lW2 : ∀ (ki2 : Nat) (v1 : Int) (s1 : kM) (H : Heap) (locs : List Loc) (ls : Array Slot), kW (dC, dI) vwC A s.heap (wC ad kc nn s1) H locs → lv_has ls 3 [(2, .int (iI v1)), (0, .ref (ad 6)), (1, .ref (ad 5))] → lp_C_chooseFromTheEnd_2 nn Pe1 ki2 v1 s1 → W p l e (headSpec ws_C_chooseFromTheEnd rm_C_chooseFromTheEnd).room s m args below meth c H locs 0 0 (MQ below (kQv (dC, dI) vwC (wC ad kc nn) P A) args s 0 0 A) (F0 m 2 ls []) := by
    intro ki2
    induction ki2 with
    | zero => intro v1 s1 H locs ls hW hl h; exact h.elim
    | succ ki2 ih2 =>
      intro v1 s1 H locs ls hW hl h
      have h : lpB_C_chooseFromTheEnd_2 nn Pe1 (lp_C_chooseFromTheEnd_2 nn Pe1 ki2) v1 s1 := h
      unfold lpB_C_chooseFromTheEnd_2 at h
      refine lv_iload_n hx hb dC_chooseFromTheEnd_2 rfl (lv_at hl 0 rfl) ?_
      refine lv_aload_n hx hb dC_chooseFromTheEnd_3 rfl (lv_at hl 2 rfl) ?_
      refine kc_vp (As := []) (rest := [.int (iI v1)]) (ci := 5) (q0 := 5) S (c_L_count l dC dI ad kc nn s1 (P := fun r => (s1 5 3) = r) rfl) (cwV 0 hts (gV mw_624 mw_625 mw_626 mw_7 k_L_count) rfl rfl rfl (by decide +kernel) ⟨Nat.le_of_ble_eq_true rfl, Nat.le_of_ble_eq_true rfl⟩) hK hN hW.1 rfl rfl rfl hl.1 rfl (Nat.le_of_ble_eq_true rfl) dC_chooseFromTheEnd_4 ⟨Nat.zero_le _, Nat.zero_le _⟩ (fun r1 hp => ?_)
      subst hp
      obtain ⟨q3, h⟩ := h
      obtain ⟨q4, h⟩ := h
      obtain ⟨ht, hf⟩ := h
      refine ki_icmp_ge (tgt := 26) hx hb dC_chooseFromTheEnd_7 (by decide) q3 q4 (fun c2 => ?_) (fun c2 => ?_)
      · have h := ht c2
        exact xW2 v1 s1 _ _ ls hW (lv_sub hl [1, 2] rfl) h
      · have h := hf c2
        refine lv_aload_n hx hb dC_chooseFromTheEnd_10 rfl (lv_at hl 1 rfl) ?_
        refine k_get (ci := 6) (C := R_C) (T := T_C) (N := 10) hx hb hts (fun w q => gG_in (inG_C w q)) hown hK hW.1 6 rfl rfl 4 (by decide) (hts _ (gG_in mw_154)) rfl dC_chooseFromTheEnd_11 ?_
        refine lv_iload_n hx hb dC_chooseFromTheEnd_14 rfl (lv_at hl 0 rfl) ?_
        refine lv_aload_n hx hb dC_chooseFromTheEnd_15 rfl (lv_at hl 1 rfl) ?_
        refine k_get (ci := 6) (C := R_C) (T := T_C) (N := 10) hx hb hts (fun w q => gG_in (inG_C w q)) hown hK hW.1 6 rfl rfl 6 (by decide) (hts _ (gG_in mw_156)) rfl dC_chooseFromTheEnd_16 ?_
        obtain ⟨q5, h⟩ := h
        obtain ⟨s7, es7⟩ : ∃ z : kM, z = va_up s1 23 (va_up (s1 23) v1.toNat (s1 6 6)) := ⟨_, rfl⟩
        refine k_iast (ws' := wC ad kc nn s7) hx hb hK hW 23 15 (s1 23) rfl rfl q5 (by rw [es7]; exact wC_a23 ..) dC_chooseFromTheEnd_19 (fun H locs hW => ?_)
        have h := h s7 es7
        obtain ⟨v7, ev7⟩ : ∃ z : Int, z = v1 + 1 := ⟨_, rfl⟩
        refine lv_iinc (v := iI v7) (lv' := [(2, .int (iI v7)), (0, .ref (ad 6)), (1, .ref (ad 5))]) hx hb dC_chooseFromTheEnd_20 hl (k := 0) rfl (by rw [ev7, ← iI_add]; rfl) (by decide) rfl (fun ls hl => ?_)
        have h := h v7 ev7
        refine lv_goto (tgt := 2) hx hb dC_chooseFromTheEnd_23 (by decide) ?_
        exact ih2 v7 s7 _ _ ls hW (lv_sub hl [0, 1, 2] rfl) h
  exact lW2 k1 0 σ _ _ ls hW (lv_sub hl [0, 1, 2] rfl) h
end
section
abbrev rm_C_listFromTheBegin : Room := { frames := 1, cells := 0, slots := 0, locals := 21 }
set_option maxHeartbeats 4000000 in
set_option maxRecDepth 100000 in
theorem c_C_listFromTheBegin (l : Launch) (dC : Nat → ClassId) (dI : Nat → Nat → Nat) (ad : Nat → Nat) (kc : Nat → ClassId) (nn : Nat → Nat) (σ : kM) {P : kM → Prop} (h : wp_C_listFromTheBegin nn σ P) : kMv l y_C_listFromTheBegin ws_C_listFromTheBegin rm_C_listFromTheBegin (dC, dI) vwC (tyC kc) (wC ad kc nn) nsG σ [.ref (ad 6), .ref (ad 5)] P := by
  intro sz
  refine k_enter (cc := b_C_listFromTheBegin) (maxL := 5) (ret := none) (by decide) rfl (Nat.le_of_ble_eq_true rfl) ?_
  intro p e s m below meth c ls S hr hlocks hsz hA hW hK hN hl
  generalize va_A ((wC ad kc nn) σ) sz = A at hA hW ⊢
  generalize ([.ref (ad 6), .ref (ad 5)] : List Value).toArray = args at S ⊢
  obtain ⟨hx, hb, hml, hown, hts⟩ := id S
  have hl : lv_has ls 5 [(0, .ref (ad 6)), (1, .ref (ad 5))] := hl
  unfold wp_C_listFromTheBegin at h
  refine lv_aload_n hx hb dC_listFromTheBegin_0 rfl (lv_at hl 0 rfl) ?_
  refine lv_iconst (v := iI 0) hx hb dC_listFromTheBegin_1 rfl ?_
  obtain ⟨s1, es1⟩ : ∃ z : kM, z = va_up σ 6 (va_up (σ 6) 7 0) := ⟨_, rfl⟩
  refine k_put (ty := .int) (ws' := wC ad kc nn s1) (ci := 6) (C := R_C) (T := T_C) (N := 10) hx hb hts (fun w q => gG_in (inG_C w q)) ty_C tk_C nm_C hown hK hW 6 rfl rfl 7 (by decide) (hts _ (gG_in mw_157)) rfl (by decide +kernel) rfl rfl (Nat.le_of_ble_eq_true rfl) (by rw [es1]; exact wC_p6_7 ..) dC_listFromTheBegin_2 (fun H locs hW => ?_)
  have h := h s1 es1
  refine lv_aload_n hx hb dC_listFromTheBegin_5 rfl (lv_at hl 0 rfl) ?_
  refine lv_iconst (v := iI 0) hx hb dC_listFromTheBegin_6 rfl ?_
  obtain ⟨s2, es2⟩ : ∃ z : kM, z = va_up s1 6 (va_up (s1 6) 8 0) := ⟨_, rfl⟩
  refine k_put (ty := .int) (ws' := wC ad kc nn s2) (ci := 6) (C := R_C) (T := T_C) (N := 10) hx hb hts (fun w q => gG_in (inG_C w q)) ty_C tk_C nm_C hown hK hW 6 rfl rfl 8 (by decide) (hts _ (gG_in mw_158)) rfl (by decide +kernel) rfl rfl (Nat.le_of_ble_eq_true rfl) (by rw [es2]; exact wC_p6_8 ..) dC_listFromTheBegin_7 (fun H locs hW => ?_)
  have h := h s2 es2
  refine lv_aload_n hx hb dC_listFromTheBegin_10 rfl (lv_at hl 0 rfl) ?_
  refine lv_iconst (v := iI 0) hx hb dC_listFromTheBegin_11 rfl ?_
  obtain ⟨s3, es3⟩ : ∃ z : kM, z = va_up s2 6 (va_up (s2 6) 9 0) := ⟨_, rfl⟩
  refine k_put (ty := .int) (ws' := wC ad kc nn s3) (ci := 6) (C := R_C) (T := T_C) (N := 10) hx hb hts (fun w q => gG_in (inG_C w q)) ty_C tk_C nm_C hown hK hW 6 rfl rfl 9 (by decide) (hts _ (gG_in mw_159)) rfl (by decide +kernel) rfl rfl (Nat.le_of_ble_eq_true rfl) (by rw [es3]; exact wC_p6_9 ..) dC_listFromTheBegin_12 (fun H locs hW => ?_)
  have h := h s3 es3
  refine lv_iconst (v := iI 0) hx hb dC_listFromTheBegin_15 rfl ?_
  refine lv_istore_n (lv' := [(2, .int (iI 0)), (0, .ref (ad 6)), (1, .ref (ad 5))]) hx hb dC_listFromTheBegin_16 rfl hl (by decide) rfl (fun ls hl => ?_)
  refine lv_iconst (v := iI 0) hx hb dC_listFromTheBegin_17 rfl ?_
  refine lv_istore_n (lv' := [(3, .int (iI 0)), (2, .int (iI 0)), (0, .ref (ad 6)), (1, .ref (ad 5))]) hx hb dC_listFromTheBegin_18 rfl hl (by decide) rfl (fun ls hl => ?_)
  obtain ⟨Pe1, k1, h, hk1⟩ := h
  have xW1 : ∀ (v3 : Int) (v4 : Int) (s5 : kM) (H : Heap) (locs : List Loc) (ls : Array Slot), kW (dC, dI) vwC A s.heap (wC ad kc nn s5) H locs → lv_has ls 5 [] → Pe1 v3 v4 s5 → W p l e (headSpec ws_C_listFromTheBegin rm_C_listFromTheBegin).room s m args below meth c H locs 0 0 (MQ below (kQv (dC, dI) vwC (wC ad kc nn) P A) args s 0 0 A) (F0 m 112 ls []) := by
    intro v3 v4 s5 H locs ls hW hl h
    have h := hk1 v3 v4 s5 h
    exact k_vret hx hb hr hlocks hW dC_listFromTheBegin_112 h
  have lW1 : ∀ (ki1 : Nat) (v1 : Int) (v2 : Int) (s4 : kM) (H : Heap) (locs : List Loc) (ls : Array Slot), kW (dC, dI) vwC A s.heap (wC ad kc nn s4) H locs → lv_has ls 5 [(3, .int (iI v1)), (2, .int (iI v2)), (0, .ref (ad 6)), (1, .ref (ad 5))] → lp_C_listFromTheBegin_19 nn Pe1 ki1 v1 v2 s4 → W p l e (headSpec ws_C_listFromTheBegin rm_C_listFromTheBegin).room s m args below meth c H locs 0 0 (MQ below (kQv (dC, dI) vwC (wC ad kc nn) P A) args s 0 0 A) (F0 m 19 ls []) := by
    intro ki1
    induction ki1 with
    | zero => intro v1 v2 s4 H locs ls hW hl h; exact h.elim
    | succ ki1 ih1 =>
      intro v1 v2 s4 H locs ls hW hl h
      have h : lpB_C_listFromTheBegin_19 nn Pe1 (lp_C_listFromTheBegin_19 nn Pe1 ki1) v1 v2 s4 := h
      unfold lpB_C_listFromTheBegin_19 at h
      refine lv_iload_n hx hb dC_listFromTheBegin_19 rfl (lv_at hl 0 rfl) ?_
      refine lv_aload_n hx hb dC_listFromTheBegin_20 rfl (lv_at hl 2 rfl) ?_
      refine k_get (ci := 6) (C := R_C) (T := T_C) (N := 10) hx hb hts (fun w q => gG_in (inG_C w q)) hown hK hW.1 6 rfl rfl 6 (by decide) (hts _ (gG_in mw_156)) rfl dC_listFromTheBegin_21 ?_
      obtain ⟨q1, h⟩ := h
      obtain ⟨q2, h⟩ := h
      obtain ⟨ht, hf⟩ := h
      refine ki_icmp_ge (tgt := 112) hx hb dC_listFromTheBegin_24 (by decide) q1 q2 (fun c1 => ?_) (fun c1 => ?_)
      · have h := ht c1
        exact xW1 v1 v2 s4 _ _ ls hW (lv_sub hl [] rfl) h
      · have h := hf c1
        refine lv_iload_n hx hb dC_listFromTheBegin_27 rfl (lv_at hl 0 rfl) ?_
        refine lv_iload_n hx hb dC_listFromTheBegin_28 rfl (lv_at hl 1 rfl) ?_
        obtain ⟨q3, h⟩ := h
        obtain ⟨q4, h⟩ := h
        obtain ⟨ht, hf⟩ := h
        refine ki_icmp_ge (tgt := 35) hx hb dC_listFromTheBegin_29 (by decide) q3 q4 (fun c2 => ?_) (fun c2 => ?_)
        · have h := ht c2
          refine lv_aload_n hx hb dC_listFromTheBegin_35 rfl (lv_at hl 2 rfl) ?_
          refine k_get (ci := 6) (C := R_C) (T := T_C) (N := 10) hx hb hts (fun w q => gG_in (inG_C w q)) hown hK hW.1 6 rfl rfl 2 (by decide) (hts _ (gG_in mw_152)) rfl dC_listFromTheBegin_36 ?_
          refine lv_iload_n hx hb dC_listFromTheBegin_39 rfl (lv_at hl 0 rfl) ?_
          obtain ⟨q5, h⟩ := h
          refine k_iald hx hb hK hW.1 21 13 (s4 21) rfl rfl q5 dC_listFromTheBegin_40 ?_
          refine ki_nm (fun v5 ev5 => ?_)
          have h := h v5 ev5
          refine lv_istore (lv' := [(4, .int (iI v5)), (3, .int (iI v1)), (2, .int (iI v2)), (0, .ref (ad 6)), (1, .ref (ad 5))]) hx hb dC_listFromTheBegin_41 hl (by decide) rfl (fun ls hl => ?_)
          refine lv_iload hx hb dC_listFromTheBegin_43 (lv_at hl 0 rfl) ?_
          refine lv_iconst (v := iI (-1)) hx hb dC_listFromTheBegin_45 rfl ?_
          obtain ⟨q6, h⟩ := h
          obtain ⟨ht, hf⟩ := h
          refine ki_icmp_ne (tgt := 62) hx hb dC_listFromTheBegin_46 (by decide) q6 (by constructor <;> decide) (fun c3 => ?_) (fun c3 => ?_)
          · have h := ht c3
            refine lv_aload_n hx hb dC_listFromTheBegin_62 rfl (lv_at hl 3 rfl) ?_
            refine k_get (ci := 6) (C := R_C) (T := T_C) (N := 10) hx hb hts (fun w q => gG_in (inG_C w q)) hown hK hW.1 6 rfl rfl 3 (by decide) (hts _ (gG_in mw_153)) rfl dC_listFromTheBegin_63 ?_
            refine lv_aload_n hx hb dC_listFromTheBegin_66 rfl (lv_at hl 3 rfl) ?_
            refine k_get (ci := 6) (C := R_C) (T := T_C) (N := 10) hx hb hts (fun w q => gG_in (inG_C w q)) hown hK hW.1 6 rfl rfl 7 (by decide) (hts _ (gG_in mw_157)) rfl dC_listFromTheBegin_67 ?_
            refine lv_iload_n hx hb dC_listFromTheBegin_70 rfl (lv_at hl 1 rfl) ?_
            obtain ⟨q7, h⟩ := h
            obtain ⟨s6, es6⟩ : ∃ z : kM, z = va_up s4 22 (va_up (s4 22) (s4 6 7).toNat v1) := ⟨_, rfl⟩
            refine k_iast (ws' := wC ad kc nn s6) hx hb hK hW 22 14 (s4 22) rfl rfl q7 (by rw [es6]; exact wC_a22 ..) dC_listFromTheBegin_71 (fun H locs hW => ?_)
            have h := h s6 es6
            refine lv_aload_n hx hb dC_listFromTheBegin_72 rfl (lv_at hl 3 rfl) ?_
            refine lv_dup hx hb dC_listFromTheBegin_73 rfl ?_
            refine k_get (ci := 6) (C := R_C) (T := T_C) (N := 10) hx hb hts (fun w q => gG_in (inG_C w q)) hown hK hW.1 6 rfl rfl 7 (by decide) (hts _ (gG_in mw_157)) rfl dC_listFromTheBegin_74 ?_
            refine lv_iconst (v := iI 1) hx hb dC_listFromTheBegin_77 rfl ?_
            refine ki_add hx hb dC_listFromTheBegin_78 ?_
            obtain ⟨s7, es7⟩ : ∃ z : kM, z = va_up s6 6 (va_up (s6 6) 7 ((s6 6 7) + 1)) := ⟨_, rfl⟩
            refine k_put (ty := .int) (ws' := wC ad kc nn s7) (ci := 6) (C := R_C) (T := T_C) (N := 10) hx hb hts (fun w q => gG_in (inG_C w q)) ty_C tk_C nm_C hown hK hW 6 rfl rfl 7 (by decide) (hts _ (gG_in mw_157)) rfl (by decide +kernel) rfl rfl (Nat.le_of_ble_eq_true rfl) (by rw [es7]; exact wC_p6_7 ..) dC_listFromTheBegin_79 (fun H locs hW => ?_)
            have h := h s7 es7
            refine lv_aload_n hx hb dC_listFromTheBegin_82 rfl (lv_at hl 3 rfl) ?_
            refine lv_dup hx hb dC_listFromTheBegin_83 rfl ?_
            refine k_get (ci := 6) (C := R_C) (T := T_C) (N := 10) hx hb hts (fun w q => gG_in (inG_C w q)) hown hK hW.1 6 rfl rfl 8 (by decide) (hts _ (gG_in mw_158)) rfl dC_listFromTheBegin_84 ?_
            refine lv_aload_n hx hb dC_listFromTheBegin_87 rfl (lv_at hl 4 rfl) ?_
            refine lv_iload hx hb dC_listFromTheBegin_88 (lv_at hl 0 rfl) ?_
            obtain ⟨P1, g1, h⟩ := h
            refine kc_vp (As := [.int (iI v5)]) (rest := [.int (iI (s7 6 8)), .ref (ad 6)]) (ci := 5) (q0 := 5) S (c_L_worth l dC dI ad kc nn s7 v5 g1) (cwV 1 hts (gV mw_637 mw_638 mw_639 mw_7 k_L_worth) rfl rfl rfl (by decide +kernel) ⟨Nat.le_of_ble_eq_true rfl, Nat.le_of_ble_eq_true rfl⟩) hK hN hW.1 rfl rfl rfl hl.1 rfl (Nat.le_of_ble_eq_true rfl) dC_listFromTheBegin_90 ⟨Nat.zero_le _, Nat.zero_le _⟩ (fun r1 hp => ?_)
            have h := h r1 hp
            refine ki_add hx hb dC_listFromTheBegin_93 ?_
            obtain ⟨s8, es8⟩ : ∃ z : kM, z = va_up s7 6 (va_up (s7 6) 8 ((s7 6 8) + r1)) := ⟨_, rfl⟩
            refine k_put (ty := .int) (ws' := wC ad kc nn s8) (ci := 6) (C := R_C) (T := T_C) (N := 10) hx hb hts (fun w q => gG_in (inG_C w q)) ty_C tk_C nm_C hown hK hW 6 rfl rfl 8 (by decide) (hts _ (gG_in mw_158)) rfl (by decide +kernel) rfl rfl (Nat.le_of_ble_eq_true rfl) (by rw [es8]; exact wC_p6_8 ..) dC_listFromTheBegin_94 (fun H locs hW => ?_)
            have h := h s8 es8
            refine lv_iload_n hx hb dC_listFromTheBegin_97 rfl (lv_at hl 1 rfl) ?_
            refine lv_aload_n hx hb dC_listFromTheBegin_98 rfl (lv_at hl 4 rfl) ?_
            refine lv_iload hx hb dC_listFromTheBegin_99 (lv_at hl 0 rfl) ?_
            obtain ⟨P2, g2, h⟩ := h
            refine kc_vp (As := [.int (iI v5)]) (rest := [.int (iI v1)]) (ci := 5) (q0 := 5) S (c_L_width l dC dI ad kc nn s8 v5 g2) (cwV 1 hts (gV mw_633 mw_634 mw_635 mw_7 k_L_width) rfl rfl rfl (by decide +kernel) ⟨Nat.le_of_ble_eq_true rfl, Nat.le_of_ble_eq_true rfl⟩) hK hN hW.1 rfl rfl rfl hl.1 rfl (Nat.le_of_ble_eq_true rfl) dC_listFromTheBegin_101 ⟨Nat.zero_le _, Nat.zero_le _⟩ (fun r2 hp => ?_)
            have h := h r2 hp
            refine ki_add hx hb dC_listFromTheBegin_104 ?_
            refine ki_nm (fun v6 ev6 => ?_)
            have h := h v6 ev6
            refine lv_istore_n (lv' := [(2, .int (iI v6)), (4, .int (iI v5)), (3, .int (iI v1)), (0, .ref (ad 6)), (1, .ref (ad 5))]) hx hb dC_listFromTheBegin_105 rfl hl (by decide) rfl (fun ls hl => ?_)
            obtain ⟨v7, ev7⟩ : ∃ z : Int, z = v1 + 1 := ⟨_, rfl⟩
            refine lv_iinc (v := iI v7) (lv' := [(3, .int (iI v7)), (2, .int (iI v6)), (4, .int (iI v5)), (0, .ref (ad 6)), (1, .ref (ad 5))]) hx hb dC_listFromTheBegin_106 hl (k := 2) rfl (by rw [ev7, ← iI_add]; rfl) (by decide) rfl (fun ls hl => ?_)
            have h := h v7 ev7
            refine lv_goto (tgt := 19) hx hb dC_listFromTheBegin_109 (by decide) ?_
            exact ih1 v7 v6 s8 _ _ ls hW (lv_sub hl [0, 1, 3, 4] rfl) h
          · have h := hf c3
            refine lv_aload_n hx hb dC_listFromTheBegin_49 rfl (lv_at hl 3 rfl) ?_
            refine lv_dup hx hb dC_listFromTheBegin_50 rfl ?_
            refine k_get (ci := 6) (C := R_C) (T := T_C) (N := 10) hx hb hts (fun w q => gG_in (inG_C w q)) hown hK hW.1 6 rfl rfl 9 (by decide) (hts _ (gG_in mw_159)) rfl dC_listFromTheBegin_51 ?_
            refine lv_iconst (v := iI 1) hx hb dC_listFromTheBegin_54 rfl ?_
            refine ki_add hx hb dC_listFromTheBegin_55 ?_
            obtain ⟨s9, es9⟩ : ∃ z : kM, z = va_up s4 6 (va_up (s4 6) 9 ((s4 6 9) + 1)) := ⟨_, rfl⟩
            refine k_put (ty := .int) (ws' := wC ad kc nn s9) (ci := 6) (C := R_C) (T := T_C) (N := 10) hx hb hts (fun w q => gG_in (inG_C w q)) ty_C tk_C nm_C hown hK hW 6 rfl rfl 9 (by decide) (hts _ (gG_in mw_159)) rfl (by decide +kernel) rfl rfl (Nat.le_of_ble_eq_true rfl) (by rw [es9]; exact wC_p6_9 ..) dC_listFromTheBegin_56 (fun H locs hW => ?_)
            have h := h s9 es9
            refine lv_goto (tgt := 106) hx hb dC_listFromTheBegin_59 (by decide) ?_
            obtain ⟨v8, ev8⟩ : ∃ z : Int, z = v1 + 1 := ⟨_, rfl⟩
            refine lv_iinc (v := iI v8) (lv' := [(3, .int (iI v8)), (4, .int (iI v5)), (2, .int (iI v2)), (0, .ref (ad 6)), (1, .ref (ad 5))]) hx hb dC_listFromTheBegin_106 hl (k := 1) rfl (by rw [ev8, ← iI_add]; rfl) (by decide) rfl (fun ls hl => ?_)
            have h := h v8 ev8
            refine lv_goto (tgt := 19) hx hb dC_listFromTheBegin_109 (by decide) ?_
            exact ih1 v8 v2 s9 _ _ ls hW (lv_sub hl [0, 2, 3, 4] rfl) h
        · have h := hf c2
          refine lv_goto (tgt := 106) hx hb dC_listFromTheBegin_32 (by decide) ?_
          obtain ⟨v9, ev9⟩ : ∃ z : Int, z = v1 + 1 := ⟨_, rfl⟩
          refine lv_iinc (v := iI v9) (lv' := [(3, .int (iI v9)), (2, .int (iI v2)), (0, .ref (ad 6)), (1, .ref (ad 5))]) hx hb dC_listFromTheBegin_106 hl (k := 0) rfl (by rw [ev9, ← iI_add]; rfl) (by decide) rfl (fun ls hl => ?_)
          have h := h v9 ev9
          refine lv_goto (tgt := 19) hx hb dC_listFromTheBegin_109 (by decide) ?_
          exact ih1 v9 v2 s4 _ _ ls hW (lv_sub hl [0, 1, 2, 3] rfl) h
  exact lW1 k1 0 0 s3 _ _ ls hW (lv_sub hl [0, 1, 2, 3] rfl) h
abbrev rm_C_cut : Room := { frames := 5, cells := 0, slots := 0, locals := 112 }
set_option maxHeartbeats 4000000 in
set_option maxRecDepth 100000 in
theorem c_C_cut (l : Launch) (dC : Nat → ClassId) (dI : Nat → Nat → Nat) (ad : Nat → Nat) (kc : Nat → ClassId) (nn : Nat → Nat) (σ : kM) (p3 : Int) {P : kM → Prop} (h : wp_C_cut nn σ p3 P) : kMv l y_C_cut ws_C_cut rm_C_cut (dC, dI) vwC (tyC kc) (wC ad kc nn) nsG σ [.ref (ad 6), .ref (ad 3), .ref (ad 4), .ref (ad 5), .int (iI p3)] P := by
  intro sz
  refine k_enter (cc := b_C_cut) (maxL := 6) (ret := none) (by decide) rfl (Nat.le_of_ble_eq_true rfl) ?_
  intro p e s m below meth c ls S hr hlocks hsz hA hW hK hN hl
  generalize va_A ((wC ad kc nn) σ) sz = A at hA hW ⊢
  generalize ([.ref (ad 6), .ref (ad 3), .ref (ad 4), .ref (ad 5), .int (iI p3)] : List Value).toArray = args at S ⊢
  obtain ⟨hx, hb, hml, hown, hts⟩ := id S
  have hl : lv_has ls 6 [(0, .ref (ad 6)), (1, .ref (ad 3)), (2, .ref (ad 4)), (3, .ref (ad 5)), (4, .int (iI p3))] := hl
  unfold wp_C_cut at h
  refine lv_iconst (v := iI 1) hx hb dC_cut_0 rfl ?_
  refine lv_iload hx hb dC_cut_1 (lv_at hl 4 rfl) ?_
  obtain ⟨q1, h⟩ := h
  refine kmx hx hb (hml.trans hl.1.symm) hown (hts _ (gG_in mw_601)) (hts _ (gG_in mw_34)) (hts _ (gG_in mw_3)) (hts _ (gG_in mk_max)) ⟨Nat.le_of_ble_eq_true rfl, Nat.le_of_ble_eq_true rfl⟩ ⟨Nat.zero_le _, Nat.zero_le _⟩ (by constructor <;> decide) q1 dC_cut_3 ?_
  refine ki_nm (fun v1 ev1 => ?_)
  have h := h v1 ev1
  refine lv_istore (lv' := [(5, .int (iI v1)), (0, .ref (ad 6)), (1, .ref (ad 3)), (2, .ref (ad 4)), (3, .ref (ad 5)), (4, .int (iI p3))]) hx hb dC_cut_6 hl (by decide) rfl (fun ls hl => ?_)
  refine lv_aload_n hx hb dC_cut_8 rfl (lv_at hl 1 rfl) ?_
  refine lv_sipush (v := iI 2000) hx hb dC_cut_9 (by decide) ?_
  refine lv_aload_n hx hb dC_cut_12 rfl (lv_at hl 2 rfl) ?_
  obtain ⟨P1, g1, h⟩ := h
  refine kc_vp (As := []) (rest := [.int (iI 2000), .ref (ad 6)]) (ci := 3) (q0 := 3) S (c_R_length l dC dI ad kc nn σ g1) (cwV 0 hts (gV mw_602 mw_603 mw_604 mw_5 k_R_length) rfl rfl rfl (by decide +kernel) ⟨Nat.le_of_ble_eq_true rfl, Nat.le_of_ble_eq_true rfl⟩) hK hN hW.1 rfl rfl rfl hl.1 rfl (Nat.le_of_ble_eq_true rfl) dC_cut_13 ⟨Nat.zero_le _, Nat.zero_le _⟩ (fun r1 hp => ?_)
  have h := h r1 hp
  refine lv_iload hx hb dC_cut_16 (lv_at hl 0 rfl) ?_
  obtain ⟨q2, h⟩ := h
  refine ki_div hx hb dC_cut_18 q2 ?_
  obtain ⟨q3, h⟩ := h
  refine kmn hx hb (hml.trans hl.1.symm) hown (hts _ (gG_in mw_606)) (hts _ (gG_in mw_31)) (hts _ (gG_in mw_3)) (hts _ (gG_in mk_min)) ⟨Nat.le_of_ble_eq_true rfl, Nat.le_of_ble_eq_true rfl⟩ ⟨Nat.zero_le _, Nat.zero_le _⟩ (by constructor <;> decide) q3 dC_cut_19 ?_
  obtain ⟨s1, es1⟩ : ∃ z : kM, z = va_up σ 6 (va_up (σ 6) 6 (if (r1 / v1) < 2000 then r1 / v1 else 2000)) := ⟨_, rfl⟩
  refine k_put (ty := .int) (ws' := wC ad kc nn s1) (ci := 6) (C := R_C) (T := T_C) (N := 10) hx hb hts (fun w q => gG_in (inG_C w q)) ty_C tk_C nm_C hown hK hW 6 rfl rfl 6 (by decide) (hts _ (gG_in mw_156)) rfl (by decide +kernel) rfl rfl (Nat.le_of_ble_eq_true rfl) (by rw [es1]; exact wC_p6_6 ..) dC_cut_22 (fun H locs hW => ?_)
  have h := h s1 es1
  refine lv_aload_n hx hb dC_cut_25 rfl (lv_at hl 1 rfl) ?_
  refine lv_aload_n hx hb dC_cut_26 rfl (lv_at hl 2 rfl) ?_
  refine lv_aload_n hx hb dC_cut_27 rfl (lv_at hl 3 rfl) ?_
  refine lv_iload hx hb dC_cut_28 (lv_at hl 0 rfl) ?_
  obtain ⟨P2, g2, h⟩ := h
  refine kc_vv (As := [.ref (ad 3), .ref (ad 4), .int (iI v1)]) (rest := []) (ci := 6) (q0 := 6) S (c_C_markFaults l dC dI ad kc nn s1 v1 g2) (cwV 3 hts (gV mw_607 mw_609 ps_13 mw_8 k_C_markFaults) rfl rfl rfl (by decide +kernel) ⟨Nat.le_of_ble_eq_true rfl, Nat.le_of_ble_eq_true rfl⟩) hK hN hA hW (fun _ => rfl) rfl rfl rfl hl.1 rfl (Nat.le_of_ble_eq_true rfl) dC_cut_30 ⟨Nat.zero_le _, Nat.zero_le _⟩ (fun s2 H locs hp hW => ?_)
  have h := h s2 hp
  refine lv_aload_n hx hb dC_cut_33 rfl (lv_at hl 1 rfl) ?_
  refine lv_aload_n hx hb dC_cut_34 rfl (lv_at hl 4 rfl) ?_
  obtain ⟨P3, g3, h⟩ := h
  refine kc_vv (As := [.ref (ad 5)]) (rest := []) (ci := 6) (q0 := 6) S (c_C_chooseFromTheEnd l dC dI ad kc nn s2 g3) (cwV 1 hts (gV mw_620 mw_622 ps_14 mw_8 k_C_chooseFromTheEnd) rfl rfl rfl (by decide +kernel) ⟨Nat.le_of_ble_eq_true rfl, Nat.le_of_ble_eq_true rfl⟩) hK hN hA hW (fun _ => rfl) rfl rfl rfl hl.1 rfl (Nat.le_of_ble_eq_true rfl) dC_cut_35 ⟨Nat.zero_le _, Nat.zero_le _⟩ (fun s3 H locs hp hW => ?_)
  have h := h s3 hp
  refine lv_aload_n hx hb dC_cut_38 rfl (lv_at hl 1 rfl) ?_
  refine lv_aload_n hx hb dC_cut_39 rfl (lv_at hl 4 rfl) ?_
  obtain ⟨P4, g4, h⟩ := h
  refine kc_vv (As := [.ref (ad 5)]) (rest := []) (ci := 6) (q0 := 6) S (c_C_listFromTheBegin l dC dI ad kc nn s3 g4) (cwV 1 hts (gV mw_646 mw_648 ps_17 mw_8 k_C_listFromTheBegin) rfl rfl rfl (by decide +kernel) ⟨Nat.le_of_ble_eq_true rfl, Nat.le_of_ble_eq_true rfl⟩) hK hN hA hW (fun _ => rfl) rfl rfl rfl hl.1 rfl (Nat.le_of_ble_eq_true rfl) dC_cut_40 ⟨Nat.zero_le _, Nat.zero_le _⟩ (fun s4 H locs hp hW => ?_)
  have h := h s4 hp
  refine lv_aload_n hx hb dC_cut_43 rfl (lv_at hl 1 rfl) ?_
  refine lv_iconst (v := iI 1) hx hb dC_cut_44 rfl ?_
  obtain ⟨s5, es5⟩ : ∃ z : kM, z = va_up s4 6 (va_up (s4 6) 5 1) := ⟨_, rfl⟩
  refine k_put (ty := .boolean) (ws' := wC ad kc nn s5) (ci := 6) (C := R_C) (T := T_C) (N := 10) hx hb hts (fun w q => gG_in (inG_C w q)) ty_C tk_C nm_C hown hK hW 6 rfl rfl 5 (by decide) (hts _ (gG_in mw_155)) rfl (by decide +kernel) (narZ (by decide)) (fitZ (by decide)) (Nat.le_of_ble_eq_true rfl) (by rw [es5]; exact wC_p6_5 ..) dC_cut_45 (fun H locs hW => ?_)
  have h := h s5 es5
  exact k_vret hx hb hr hlocks hW dC_cut_48 h
abbrev rm_C_count : Room := { frames := 0, cells := 0, slots := 0, locals := 0 }
set_option maxHeartbeats 4000000 in
set_option maxRecDepth 100000 in
theorem c_C_count (l : Launch) (dC : Nat → ClassId) (dI : Nat → Nat → Nat) (ad : Nat → Nat) (kc : Nat → ClassId) (nn : Nat → Nat) (σ : kM) {P : Int → Prop} (h : wp_C_count nn σ P) : kMp l y_C_count ws_C_count rm_C_count (dC, dI) vwC (tyC kc) (wC ad kc nn) nsG σ [.ref (ad 6)] P := by
  refine k_enterP (cc := b_C_count) (maxL := 1) (ret := (some .int)) (by decide) rfl (Nat.le_of_ble_eq_true rfl) ?_
  intro p e s m below meth c ls S hr hlocks hP hK hN hl
  generalize ([.ref (ad 6)] : List Value).toArray = args at S ⊢
  obtain ⟨hx, hb, hml, hown, hts⟩ := id S
  have hl : lv_has ls 1 [(0, .ref (ad 6))] := hl
  unfold wp_C_count at h
  refine lv_aload_n hx hb dC_count_0 rfl (lv_at hl 0 rfl) ?_
  refine k_get (ci := 6) (C := R_C) (T := T_C) (N := 10) hx hb hts (fun w q => gG_in (inG_C w q)) hown hK hP 6 rfl rfl 7 (by decide) (hts _ (gG_in mw_157)) rfl dC_count_1 ?_
  exact k_iretP hx hb hr hlocks dC_count_4 h
abbrev rm_P_clip : Room := { frames := 6, cells := 0, slots := 0, locals := 137 }
set_option maxHeartbeats 4000000 in
set_option maxRecDepth 100000 in
theorem c_P_clip (l : Launch) (dC : Nat → ClassId) (dI : Nat → Nat → Nat) (ad : Nat → Nat) (kc : Nat → ClassId) (nn : Nat → Nat) (σ : kM) (p0 : Int) {P : Int → kM → Prop} (h : wp_P_clip nn σ p0 P (fun _ _ => False)) : kMi l y_P_clip ws_P_clip rm_P_clip (dC, dI) vwC (tyC kc) (wC ad kc nn) nsG σ [.ref (ad 0), .int (iI p0)] P := by
  intro sz
  refine k_enter (cc := b_P_clip) (maxL := 2) (ret := (some .int)) (by decide) rfl (Nat.le_of_ble_eq_true rfl) ?_
  intro p e s m below meth c ls S hr hlocks hsz hA hW hK hN hl
  generalize va_A ((wC ad kc nn) σ) sz = A at hA hW ⊢
  generalize ([.ref (ad 0), .int (iI p0)] : List Value).toArray = args at S ⊢
  obtain ⟨hx, hb, hml, hown, hts⟩ := id S
  have hl : lv_has ls 2 [(0, .ref (ad 0)), (1, .int (iI p0))] := hl
  unfold wp_P_clip at h
  refine lv_iload_n hx hb dP_clip_0 rfl (lv_at hl 1 rfl) ?_
  refine lv_iconst (v := iI 1) hx hb dP_clip_1 rfl ?_
  refine lv_sipush (v := iI 1000) hx hb dP_clip_2 (by decide) ?_
  obtain ⟨P1, g1, h⟩ := h
  refine kc_sp (As := [.int (iI p0), .int (iI 1), .int (iI 1000)]) (rest := []) S (c_P_isWithin l dC dI (tyC kc) (wC ad kc nn) nn σ p0 1 1000 g1) (cwS 3 hts (gS mw_417 mw_270 mw_1 k_P_isWithin) rfl rfl rfl (by decide +kernel) ⟨Nat.le_of_ble_eq_true rfl, Nat.le_of_ble_eq_true rfl⟩) hK hN hW.1 rfl hl.1 rfl (Nat.le_of_ble_eq_true rfl) dP_clip_5 ⟨Nat.zero_le _, Nat.zero_le _⟩ (fun r1 hp => ?_)
  have h := h r1 hp
  obtain ⟨q1, h⟩ := h
  obtain ⟨ht, hf⟩ := h
  refine ki_if_ne (tgt := 21) hx hb dP_clip_8 (by decide) q1 (fun c1 => ?_) (fun c1 => ?_)
  · have h := ht c1
    refine lv_aload_n hx hb dP_clip_21 rfl (lv_at hl 0 rfl) ?_
    refine k_get (ci := 0) (C := R_P) (T := T_P) (N := 7) hx hb hts (fun w q => gG_in (inG_P w q)) hown hK hW.1 0 rfl rfl 2 (by decide) (hts _ (gG_in mw_200)) rfl dP_clip_22 ?_
    obtain ⟨P2, g2, h⟩ := h
    refine kc_vp (As := []) (rest := []) (ci := 3) (q0 := 3) S (c_R_isPeeled l dC dI ad kc nn σ g2) (cwV 0 hts (gV mw_480 mw_481 mw_482 mw_5 k_R_isPeeled) rfl rfl rfl (by decide +kernel) ⟨Nat.le_of_ble_eq_true rfl, Nat.le_of_ble_eq_true rfl⟩) hK hN hW.1 rfl rfl rfl hl.1 rfl (Nat.le_of_ble_eq_true rfl) dP_clip_25 ⟨Nat.zero_le _, Nat.zero_le _⟩ (fun r2 hp => ?_)
    have h := h r2 hp
    obtain ⟨q2, h⟩ := h
    obtain ⟨ht, hf⟩ := h
    refine ki_if_ne (tgt := 41) hx hb dP_clip_28 (by decide) q2 (fun c2 => ?_) (fun c2 => ?_)
    · have h := ht c2
      refine lv_aload_n hx hb dP_clip_41 rfl (lv_at hl 0 rfl) ?_
      refine k_get (ci := 0) (C := R_P) (T := T_P) (N := 7) hx hb hts (fun w q => gG_in (inG_P w q)) hown hK hW.1 0 rfl rfl 5 (by decide) (hts _ (gG_in mw_203)) rfl dP_clip_42 ?_
      refine lv_aload_n hx hb dP_clip_45 rfl (lv_at hl 0 rfl) ?_
      refine k_get (ci := 0) (C := R_P) (T := T_P) (N := 7) hx hb hts (fun w q => gG_in (inG_P w q)) hown hK hW.1 0 rfl rfl 2 (by decide) (hts _ (gG_in mw_200)) rfl dP_clip_46 ?_
      refine lv_aload_n hx hb dP_clip_49 rfl (lv_at hl 0 rfl) ?_
      refine k_get (ci := 0) (C := R_P) (T := T_P) (N := 7) hx hb hts (fun w q => gG_in (inG_P w q)) hown hK hW.1 0 rfl rfl 3 (by decide) (hts _ (gG_in mw_201)) rfl dP_clip_50 ?_
      refine lv_aload_n hx hb dP_clip_53 rfl (lv_at hl 0 rfl) ?_
      refine k_get (ci := 0) (C := R_P) (T := T_P) (N := 7) hx hb hts (fun w q => gG_in (inG_P w q)) hown hK hW.1 0 rfl rfl 4 (by decide) (hts _ (gG_in mw_202)) rfl dP_clip_54 ?_
      refine lv_iload_n hx hb dP_clip_57 rfl (lv_at hl 1 rfl) ?_
      obtain ⟨P3, g3, h⟩ := h
      refine kc_vv (As := [.ref (ad 3), .ref (ad 4), .ref (ad 5), .int (iI p0)]) (rest := []) (ci := 6) (q0 := 6) S (c_C_cut l dC dI ad kc nn σ p0 g3) (cwV 4 hts (gV mw_597 mw_598 mw_599 mw_8 k_C_cut) rfl rfl rfl (by decide +kernel) ⟨Nat.le_of_ble_eq_true rfl, Nat.le_of_ble_eq_true rfl⟩) hK hN hA hW (fun _ => rfl) rfl rfl rfl hl.1 rfl (Nat.le_of_ble_eq_true rfl) dP_clip_58 ⟨Nat.zero_le _, Nat.zero_le _⟩ (fun s1 H locs hp hW => ?_)
      have h := h s1 hp
      refine lv_aload_n hx hb dP_clip_61 rfl (lv_at hl 0 rfl) ?_
      refine k_get (ci := 0) (C := R_P) (T := T_P) (N := 7) hx hb hts (fun w q => gG_in (inG_P w q)) hown hK hW.1 0 rfl rfl 5 (by decide) (hts _ (gG_in mw_203)) rfl dP_clip_62 ?_
      refine kc_vp (As := []) (rest := []) (ci := 6) (q0 := 6) S (c_C_count l dC dI ad kc nn s1 (P := fun r => (s1 6 7) = r) rfl) (cwV 0 hts (gV mw_650 mw_651 mw_652 mw_8 k_C_count) rfl rfl rfl (by decide +kernel) ⟨Nat.le_of_ble_eq_true rfl, Nat.le_of_ble_eq_true rfl⟩) hK hN hW.1 rfl rfl rfl hl.1 rfl (Nat.le_of_ble_eq_true rfl) dP_clip_65 ⟨Nat.zero_le _, Nat.zero_le _⟩ (fun r3 hp => ?_)
      subst hp
      exact k_iret hx hb hr hlocks hW dP_clip_68 h
    · have h := hf c2
      exact False.elim h
  · have h := hf c1
    exact False.elim h
abbrev rm_C_isDone : Room := { frames := 0, cells := 0, slots := 0, locals := 0 }
set_option maxHeartbeats 4000000 in
set_option maxRecDepth 100000 in
theorem c_C_isDone (l : Launch) (dC : Nat → ClassId) (dI : Nat → Nat → Nat) (ad : Nat → Nat) (kc : Nat → ClassId) (nn : Nat → Nat) (σ : kM) {P : Int → Prop} (h : wp_C_isDone nn σ P) : kMp l y_C_isDone ws_C_isDone rm_C_isDone (dC, dI) vwC (tyC kc) (wC ad kc nn) nsG σ [.ref (ad 6)] P := by
  refine k_enterP (cc := b_C_isDone) (maxL := 1) (ret := (some .boolean)) (by decide) rfl (Nat.le_of_ble_eq_true rfl) ?_
  intro p e s m below meth c ls S hr hlocks hP hK hN hl
  generalize ([.ref (ad 6)] : List Value).toArray = args at S ⊢
  obtain ⟨hx, hb, hml, hown, hts⟩ := id S
  have hl : lv_has ls 1 [(0, .ref (ad 6))] := hl
  unfold wp_C_isDone at h
  refine lv_aload_n hx hb dC_isDone_0 rfl (lv_at hl 0 rfl) ?_
  refine k_get (ci := 6) (C := R_C) (T := T_C) (N := 10) hx hb hts (fun w q => gG_in (inG_C w q)) hown hK hP 6 rfl rfl 5 (by decide) (hts _ (gG_in mw_155)) rfl dC_isDone_1 ?_
  exact k_zretP hx hb hr hlocks dC_isDone_4 h.1 h.2
abbrev rm_C_leafOf : Room := { frames := 0, cells := 0, slots := 0, locals := 0 }
set_option maxHeartbeats 4000000 in
set_option maxRecDepth 100000 in
theorem c_C_leafOf (l : Launch) (dC : Nat → ClassId) (dI : Nat → Nat → Nat) (ad : Nat → Nat) (kc : Nat → ClassId) (nn : Nat → Nat) (σ : kM) (p0 : Int) {P : Int → Prop} (h : wp_C_leafOf nn σ p0 P) : kMp l y_C_leafOf ws_C_leafOf rm_C_leafOf (dC, dI) vwC (tyC kc) (wC ad kc nn) nsG σ [.ref (ad 6), .int (iI p0)] P := by
  refine k_enterP (cc := b_C_leafOf) (maxL := 2) (ret := (some .int)) (by decide) rfl (Nat.le_of_ble_eq_true rfl) ?_
  intro p e s m below meth c ls S hr hlocks hP hK hN hl
  generalize ([.ref (ad 6), .int (iI p0)] : List Value).toArray = args at S ⊢
  obtain ⟨hx, hb, hml, hown, hts⟩ := id S
  have hl : lv_has ls 2 [(0, .ref (ad 6)), (1, .int (iI p0))] := hl
  unfold wp_C_leafOf at h
  refine lv_aload_n hx hb dC_leafOf_0 rfl (lv_at hl 0 rfl) ?_
  refine k_get (ci := 6) (C := R_C) (T := T_C) (N := 10) hx hb hts (fun w q => gG_in (inG_C w q)) hown hK hP 6 rfl rfl 2 (by decide) (hts _ (gG_in mw_152)) rfl dC_leafOf_1 ?_
  refine lv_aload_n hx hb dC_leafOf_4 rfl (lv_at hl 0 rfl) ?_
  refine k_get (ci := 6) (C := R_C) (T := T_C) (N := 10) hx hb hts (fun w q => gG_in (inG_C w q)) hown hK hP 6 rfl rfl 3 (by decide) (hts _ (gG_in mw_153)) rfl dC_leafOf_5 ?_
  refine lv_iload_n hx hb dC_leafOf_8 rfl (lv_at hl 1 rfl) ?_
  obtain ⟨q1, h⟩ := h
  refine k_iald hx hb hK hP 22 14 (σ 22) rfl rfl q1 dC_leafOf_9 ?_
  obtain ⟨q2, h⟩ := h
  refine k_iald hx hb hK hP 21 13 (σ 21) rfl rfl q2 dC_leafOf_10 ?_
  exact k_iretP hx hb hr hlocks dC_leafOf_11 h
abbrev rm_C_firstStepOf : Room := { frames := 0, cells := 0, slots := 0, locals := 0 }
set_option maxHeartbeats 4000000 in
set_option maxRecDepth 100000 in
theorem c_C_firstStepOf (l : Launch) (dC : Nat → ClassId) (dI : Nat → Nat → Nat) (ad : Nat → Nat) (kc : Nat → ClassId) (nn : Nat → Nat) (σ : kM) (p0 : Int) {P : Int → Prop} (h : wp_C_firstStepOf nn σ p0 P) : kMp l y_C_firstStepOf ws_C_firstStepOf rm_C_firstStepOf (dC, dI) vwC (tyC kc) (wC ad kc nn) nsG σ [.ref (ad 6), .int (iI p0)] P := by
  refine k_enterP (cc := b_C_firstStepOf) (maxL := 2) (ret := (some .int)) (by decide) rfl (Nat.le_of_ble_eq_true rfl) ?_
  intro p e s m below meth c ls S hr hlocks hP hK hN hl
  generalize ([.ref (ad 6), .int (iI p0)] : List Value).toArray = args at S ⊢
  obtain ⟨hx, hb, hml, hown, hts⟩ := id S
  have hl : lv_has ls 2 [(0, .ref (ad 6)), (1, .int (iI p0))] := hl
  unfold wp_C_firstStepOf at h
  refine lv_aload_n hx hb dC_firstStepOf_0 rfl (lv_at hl 0 rfl) ?_
  refine k_get (ci := 6) (C := R_C) (T := T_C) (N := 10) hx hb hts (fun w q => gG_in (inG_C w q)) hown hK hP 6 rfl rfl 3 (by decide) (hts _ (gG_in mw_153)) rfl dC_firstStepOf_1 ?_
  refine lv_iload_n hx hb dC_firstStepOf_4 rfl (lv_at hl 1 rfl) ?_
  obtain ⟨q1, h⟩ := h
  refine k_iald hx hb hK hP 22 14 (σ 22) rfl rfl q1 dC_firstStepOf_5 ?_
  exact k_iretP hx hb hr hlocks dC_firstStepOf_6 h
abbrev rm_P_at : Room := { frames := 6, cells := 0, slots := 0, locals := 82 }
set_option maxHeartbeats 4000000 in
set_option maxRecDepth 100000 in
theorem c_P_at (l : Launch) (dC : Nat → ClassId) (dI : Nat → Nat → Nat) (ad : Nat → Nat) (kc : Nat → ClassId) (nn : Nat → Nat) (σ : kM) (p0 : Int) (p1 : Int) {P : Int → kM → Prop} (h : wp_P_at nn σ p0 p1 P (fun _ _ => False)) : kMi l y_P_at ws_P_at rm_P_at (dC, dI) vwC (tyC kc) (wC ad kc nn) nsG σ [.ref (ad 0), .int (iI p0), .int (iI p1)] P := by
  intro sz
  refine k_enter (cc := b_P_at) (maxL := 3) (ret := (some .int)) (by decide) rfl (Nat.le_of_ble_eq_true rfl) ?_
  intro p e s m below meth c ls S hr hlocks hsz hA hW hK hN hl
  generalize va_A ((wC ad kc nn) σ) sz = A at hA hW ⊢
  generalize ([.ref (ad 0), .int (iI p0), .int (iI p1)] : List Value).toArray = args at S ⊢
  obtain ⟨hx, hb, hml, hown, hts⟩ := id S
  have hl : lv_has ls 3 [(0, .ref (ad 0)), (1, .int (iI p0)), (2, .int (iI p1))] := hl
  unfold wp_P_at at h
  refine lv_aload_n hx hb dP_at_0 rfl (lv_at hl 0 rfl) ?_
  refine k_get (ci := 0) (C := R_P) (T := T_P) (N := 7) hx hb hts (fun w q => gG_in (inG_P w q)) hown hK hW.1 0 rfl rfl 5 (by decide) (hts _ (gG_in mw_203)) rfl dP_at_1 ?_
  obtain ⟨P1, g1, h⟩ := h
  refine kc_vp (As := []) (rest := []) (ci := 6) (q0 := 6) S (c_C_isDone l dC dI ad kc nn σ g1) (cwV 0 hts (gV mw_661 mw_662 mw_663 mw_8 k_C_isDone) rfl rfl rfl (by decide +kernel) ⟨Nat.le_of_ble_eq_true rfl, Nat.le_of_ble_eq_true rfl⟩) hK hN hW.1 rfl rfl rfl hl.1 rfl (Nat.le_of_ble_eq_true rfl) dP_at_4 ⟨Nat.zero_le _, Nat.zero_le _⟩ (fun r1 hp => ?_)
  have h := h r1 hp
  obtain ⟨q1, h⟩ := h
  obtain ⟨ht, hf⟩ := h
  refine ki_if_ne (tgt := 20) hx hb dP_at_7 (by decide) q1 (fun c1 => ?_) (fun c1 => ?_)
  · have h := ht c1
    refine lv_iload_n hx hb dP_at_20 rfl (lv_at hl 1 rfl) ?_
    refine lv_iconst (v := iI 0) hx hb dP_at_21 rfl ?_
    refine lv_aload_n hx hb dP_at_22 rfl (lv_at hl 0 rfl) ?_
    refine k_get (ci := 0) (C := R_P) (T := T_P) (N := 7) hx hb hts (fun w q => gG_in (inG_P w q)) hown hK hW.1 0 rfl rfl 5 (by decide) (hts _ (gG_in mw_203)) rfl dP_at_23 ?_
    refine kc_vp (As := []) (rest := [.int (iI 0), .int (iI p0)]) (ci := 6) (q0 := 6) S (c_C_count l dC dI ad kc nn σ (P := fun r => (σ 6 7) = r) rfl) (cwV 0 hts (gV mw_650 mw_651 mw_652 mw_8 k_C_count) rfl rfl rfl (by decide +kernel) ⟨Nat.le_of_ble_eq_true rfl, Nat.le_of_ble_eq_true rfl⟩) hK hN hW.1 rfl rfl rfl hl.1 rfl (Nat.le_of_ble_eq_true rfl) dP_at_26 ⟨Nat.zero_le _, Nat.zero_le _⟩ (fun r2 hp => ?_)
    subst hp
    refine lv_iconst (v := iI 1) hx hb dP_at_29 rfl ?_
    refine ki_sub hx hb dP_at_30 ?_
    obtain ⟨P2, g2, h⟩ := h
    refine kc_sp (As := [.int (iI p0), .int (iI 0), .int (iI ((σ 6 7) - 1))]) (rest := []) S (c_P_isWithin l dC dI (tyC kc) (wC ad kc nn) nn σ p0 0 ((σ 6 7) - 1) g2) (cwS 3 hts (gS mw_417 mw_270 mw_1 k_P_isWithin) rfl rfl rfl (by decide +kernel) ⟨Nat.le_of_ble_eq_true rfl, Nat.le_of_ble_eq_true rfl⟩) hK hN hW.1 rfl hl.1 rfl (Nat.le_of_ble_eq_true rfl) dP_at_31 ⟨Nat.zero_le _, Nat.zero_le _⟩ (fun r3 hp => ?_)
    have h := h r3 hp
    obtain ⟨q2, h⟩ := h
    obtain ⟨ht, hf⟩ := h
    refine ki_if_eq (tgt := 46) hx hb dP_at_34 (by decide) q2 (fun c2 => ?_) (fun c2 => ?_)
    · have h := ht c2
      exact False.elim h
    · have h := hf c2
      refine lv_iload_n hx hb dP_at_37 rfl (lv_at hl 2 rfl) ?_
      refine lv_iconst (v := iI 0) hx hb dP_at_38 rfl ?_
      refine lv_iconst (v := iI 1) hx hb dP_at_39 rfl ?_
      obtain ⟨P3, g3, h⟩ := h
      refine kc_sp (As := [.int (iI p1), .int (iI 0), .int (iI 1)]) (rest := []) S (c_P_isWithin l dC dI (tyC kc) (wC ad kc nn) nn σ p1 0 1 g3) (cwS 3 hts (gS mw_417 mw_270 mw_1 k_P_isWithin) rfl rfl rfl (by decide +kernel) ⟨Nat.le_of_ble_eq_true rfl, Nat.le_of_ble_eq_true rfl⟩) hK hN hW.1 rfl hl.1 rfl (Nat.le_of_ble_eq_true rfl) dP_at_40 ⟨Nat.zero_le _, Nat.zero_le _⟩ (fun r4 hp => ?_)
      have h := h r4 hp
      obtain ⟨q3, h⟩ := h
      obtain ⟨ht, hf⟩ := h
      refine ki_if_ne (tgt := 56) hx hb dP_at_43 (by decide) q3 (fun c3 => ?_) (fun c3 => ?_)
      · have h := ht c3
        refine lv_iload_n hx hb dP_at_56 rfl (lv_at hl 2 rfl) ?_
        obtain ⟨q4, h⟩ := h
        obtain ⟨ht, hf⟩ := h
        refine ki_if_ne (tgt := 71) hx hb dP_at_57 (by decide) q4 (fun c4 => ?_) (fun c4 => ?_)
        · have h := ht c4
          refine lv_aload_n hx hb dP_at_71 rfl (lv_at hl 0 rfl) ?_
          refine k_get (ci := 0) (C := R_P) (T := T_P) (N := 7) hx hb hts (fun w q => gG_in (inG_P w q)) hown hK hW.1 0 rfl rfl 5 (by decide) (hts _ (gG_in mw_203)) rfl dP_at_72 ?_
          refine lv_iload_n hx hb dP_at_75 rfl (lv_at hl 1 rfl) ?_
          obtain ⟨P4, g4, h⟩ := h
          refine kc_vp (As := [.int (iI p0)]) (rest := []) (ci := 6) (q0 := 6) S (c_C_firstStepOf l dC dI ad kc nn σ p0 g4) (cwV 1 hts (gV mw_671 mw_672 mw_673 mw_8 k_C_firstStepOf) rfl rfl rfl (by decide +kernel) ⟨Nat.le_of_ble_eq_true rfl, Nat.le_of_ble_eq_true rfl⟩) hK hN hW.1 rfl rfl rfl hl.1 rfl (Nat.le_of_ble_eq_true rfl) dP_at_76 ⟨Nat.zero_le _, Nat.zero_le _⟩ (fun r5 hp => ?_)
          have h := h r5 hp
          exact k_iret hx hb hr hlocks hW dP_at_79 h
        · have h := hf c4
          refine lv_aload_n hx hb dP_at_60 rfl (lv_at hl 0 rfl) ?_
          refine k_get (ci := 0) (C := R_P) (T := T_P) (N := 7) hx hb hts (fun w q => gG_in (inG_P w q)) hown hK hW.1 0 rfl rfl 5 (by decide) (hts _ (gG_in mw_203)) rfl dP_at_61 ?_
          refine lv_iload_n hx hb dP_at_64 rfl (lv_at hl 1 rfl) ?_
          obtain ⟨P5, g5, h⟩ := h
          refine kc_vp (As := [.int (iI p0)]) (rest := []) (ci := 6) (q0 := 6) S (c_C_leafOf l dC dI ad kc nn σ p0 g5) (cwV 1 hts (gV mw_667 mw_668 mw_669 mw_8 k_C_leafOf) rfl rfl rfl (by decide +kernel) ⟨Nat.le_of_ble_eq_true rfl, Nat.le_of_ble_eq_true rfl⟩) hK hN hW.1 rfl rfl rfl hl.1 rfl (Nat.le_of_ble_eq_true rfl) dP_at_65 ⟨Nat.zero_le _, Nat.zero_le _⟩ (fun r6 hp => ?_)
          have h := h r6 hp
          refine lv_goto (tgt := 79) hx hb dP_at_68 (by decide) ?_
          exact k_iret hx hb hr hlocks hW dP_at_79 h
      · have h := hf c3
        exact False.elim h
  · have h := hf c1
    exact False.elim h
abbrev rm_C_worth : Room := { frames := 0, cells := 0, slots := 0, locals := 0 }
set_option maxHeartbeats 4000000 in
set_option maxRecDepth 100000 in
theorem c_C_worth (l : Launch) (dC : Nat → ClassId) (dI : Nat → Nat → Nat) (ad : Nat → Nat) (kc : Nat → ClassId) (nn : Nat → Nat) (σ : kM) {P : Int → Prop} (h : wp_C_worth nn σ P) : kMp l y_C_worth ws_C_worth rm_C_worth (dC, dI) vwC (tyC kc) (wC ad kc nn) nsG σ [.ref (ad 6)] P := by
  refine k_enterP (cc := b_C_worth) (maxL := 1) (ret := (some .int)) (by decide) rfl (Nat.le_of_ble_eq_true rfl) ?_
  intro p e s m below meth c ls S hr hlocks hP hK hN hl
  generalize ([.ref (ad 6)] : List Value).toArray = args at S ⊢
  obtain ⟨hx, hb, hml, hown, hts⟩ := id S
  have hl : lv_has ls 1 [(0, .ref (ad 6))] := hl
  unfold wp_C_worth at h
  refine lv_aload_n hx hb dC_worth_0 rfl (lv_at hl 0 rfl) ?_
  refine k_get (ci := 6) (C := R_C) (T := T_C) (N := 10) hx hb hts (fun w q => gG_in (inG_C w q)) hown hK hP 6 rfl rfl 8 (by decide) (hts _ (gG_in mw_158)) rfl dC_worth_1 ?_
  exact k_iretP hx hb hr hlocks dC_worth_4 h
abbrev rm_C_waste : Room := { frames := 0, cells := 0, slots := 0, locals := 0 }
set_option maxHeartbeats 4000000 in
set_option maxRecDepth 100000 in
theorem c_C_waste (l : Launch) (dC : Nat → ClassId) (dI : Nat → Nat → Nat) (ad : Nat → Nat) (kc : Nat → ClassId) (nn : Nat → Nat) (σ : kM) {P : Int → Prop} (h : wp_C_waste nn σ P) : kMp l y_C_waste ws_C_waste rm_C_waste (dC, dI) vwC (tyC kc) (wC ad kc nn) nsG σ [.ref (ad 6)] P := by
  refine k_enterP (cc := b_C_waste) (maxL := 1) (ret := (some .int)) (by decide) rfl (Nat.le_of_ble_eq_true rfl) ?_
  intro p e s m below meth c ls S hr hlocks hP hK hN hl
  generalize ([.ref (ad 6)] : List Value).toArray = args at S ⊢
  obtain ⟨hx, hb, hml, hown, hts⟩ := id S
  have hl : lv_has ls 1 [(0, .ref (ad 6))] := hl
  unfold wp_C_waste at h
  refine lv_aload_n hx hb dC_waste_0 rfl (lv_at hl 0 rfl) ?_
  refine k_get (ci := 6) (C := R_C) (T := T_C) (N := 10) hx hb hts (fun w q => gG_in (inG_C w q)) hown hK hP 6 rfl rfl 9 (by decide) (hts _ (gG_in mw_159)) rfl dC_waste_1 ?_
  exact k_iretP hx hb hr hlocks dC_waste_4 h
abbrev rm_C_steps : Room := { frames := 0, cells := 0, slots := 0, locals := 0 }
set_option maxHeartbeats 4000000 in
set_option maxRecDepth 100000 in
theorem c_C_steps (l : Launch) (dC : Nat → ClassId) (dI : Nat → Nat → Nat) (ad : Nat → Nat) (kc : Nat → ClassId) (nn : Nat → Nat) (σ : kM) {P : Int → Prop} (h : wp_C_steps nn σ P) : kMp l y_C_steps ws_C_steps rm_C_steps (dC, dI) vwC (tyC kc) (wC ad kc nn) nsG σ [.ref (ad 6)] P := by
  refine k_enterP (cc := b_C_steps) (maxL := 1) (ret := (some .int)) (by decide) rfl (Nat.le_of_ble_eq_true rfl) ?_
  intro p e s m below meth c ls S hr hlocks hP hK hN hl
  generalize ([.ref (ad 6)] : List Value).toArray = args at S ⊢
  obtain ⟨hx, hb, hml, hown, hts⟩ := id S
  have hl : lv_has ls 1 [(0, .ref (ad 6))] := hl
  unfold wp_C_steps at h
  refine lv_aload_n hx hb dC_steps_0 rfl (lv_at hl 0 rfl) ?_
  refine k_get (ci := 6) (C := R_C) (T := T_C) (N := 10) hx hb hts (fun w q => gG_in (inG_C w q)) hown hK hP 6 rfl rfl 6 (by decide) (hts _ (gG_in mw_156)) rfl dC_steps_1 ?_
  exact k_iretP hx hb hr hlocks dC_steps_4 h
abbrev rm_P_clipped : Room := { frames := 6, cells := 0, slots := 0, locals := 82 }
set_option maxHeartbeats 4000000 in
set_option maxRecDepth 100000 in
theorem c_P_clipped (l : Launch) (dC : Nat → ClassId) (dI : Nat → Nat → Nat) (ad : Nat → Nat) (kc : Nat → ClassId) (nn : Nat → Nat) (σ : kM) (p0 : Int) {P : Int → kM → Prop} (h : wp_P_clipped nn σ p0 P (fun _ _ => False)) : kMi l y_P_clipped ws_P_clipped rm_P_clipped (dC, dI) vwC (tyC kc) (wC ad kc nn) nsG σ [.ref (ad 0), .int (iI p0)] P := by
  intro sz
  refine k_enter (cc := b_P_clipped) (maxL := 2) (ret := (some .int)) (by decide) rfl (Nat.le_of_ble_eq_true rfl) ?_
  intro p e s m below meth c ls S hr hlocks hsz hA hW hK hN hl
  generalize va_A ((wC ad kc nn) σ) sz = A at hA hW ⊢
  generalize ([.ref (ad 0), .int (iI p0)] : List Value).toArray = args at S ⊢
  obtain ⟨hx, hb, hml, hown, hts⟩ := id S
  have hl : lv_has ls 2 [(0, .ref (ad 0)), (1, .int (iI p0))] := hl
  unfold wp_P_clipped at h
  refine lv_aload_n hx hb dP_clipped_0 rfl (lv_at hl 0 rfl) ?_
  refine k_get (ci := 0) (C := R_P) (T := T_P) (N := 7) hx hb hts (fun w q => gG_in (inG_P w q)) hown hK hW.1 0 rfl rfl 5 (by decide) (hts _ (gG_in mw_203)) rfl dP_clipped_1 ?_
  obtain ⟨P1, g1, h⟩ := h
  refine kc_vp (As := []) (rest := []) (ci := 6) (q0 := 6) S (c_C_isDone l dC dI ad kc nn σ g1) (cwV 0 hts (gV mw_661 mw_662 mw_663 mw_8 k_C_isDone) rfl rfl rfl (by decide +kernel) ⟨Nat.le_of_ble_eq_true rfl, Nat.le_of_ble_eq_true rfl⟩) hK hN hW.1 rfl rfl rfl hl.1 rfl (Nat.le_of_ble_eq_true rfl) dP_clipped_4 ⟨Nat.zero_le _, Nat.zero_le _⟩ (fun r1 hp => ?_)
  have h := h r1 hp
  obtain ⟨q1, h⟩ := h
  obtain ⟨ht, hf⟩ := h
  refine ki_if_ne (tgt := 20) hx hb dP_clipped_7 (by decide) q1 (fun c1 => ?_) (fun c1 => ?_)
  · have h := ht c1
    refine lv_iload_n hx hb dP_clipped_20 rfl (lv_at hl 1 rfl) ?_
    refine lv_iconst (v := iI 0) hx hb dP_clipped_21 rfl ?_
    refine lv_iconst (v := iI 2) hx hb dP_clipped_22 rfl ?_
    obtain ⟨P2, g2, h⟩ := h
    refine kc_sp (As := [.int (iI p0), .int (iI 0), .int (iI 2)]) (rest := []) S (c_P_isWithin l dC dI (tyC kc) (wC ad kc nn) nn σ p0 0 2 g2) (cwS 3 hts (gS mw_417 mw_270 mw_1 k_P_isWithin) rfl rfl rfl (by decide +kernel) ⟨Nat.le_of_ble_eq_true rfl, Nat.le_of_ble_eq_true rfl⟩) hK hN hW.1 rfl hl.1 rfl (Nat.le_of_ble_eq_true rfl) dP_clipped_23 ⟨Nat.zero_le _, Nat.zero_le _⟩ (fun r2 hp => ?_)
    have h := h r2 hp
    obtain ⟨q2, h⟩ := h
    obtain ⟨ht, hf⟩ := h
    refine ki_if_ne (tgt := 39) hx hb dP_clipped_26 (by decide) q2 (fun c2 => ?_) (fun c2 => ?_)
    · have h := ht c2
      refine lv_iload_n hx hb dP_clipped_39 rfl (lv_at hl 1 rfl) ?_
      obtain ⟨q3, h⟩ := h
      obtain ⟨ht, hf⟩ := h
      refine ki_if_ne (tgt := 53) hx hb dP_clipped_40 (by decide) q3 (fun c3 => ?_) (fun c3 => ?_)
      · have h := ht c3
        refine lv_iload_n hx hb dP_clipped_53 rfl (lv_at hl 1 rfl) ?_
        refine lv_iconst (v := iI 1) hx hb dP_clipped_54 rfl ?_
        obtain ⟨q4, h⟩ := h
        obtain ⟨ht, hf⟩ := h
        refine ki_icmp_ne (tgt := 68) hx hb dP_clipped_55 (by decide) q4 (by constructor <;> decide) (fun c4 => ?_) (fun c4 => ?_)
        · have h := ht c4
          refine lv_aload_n hx hb dP_clipped_68 rfl (lv_at hl 0 rfl) ?_
          refine k_get (ci := 0) (C := R_P) (T := T_P) (N := 7) hx hb hts (fun w q => gG_in (inG_P w q)) hown hK hW.1 0 rfl rfl 5 (by decide) (hts _ (gG_in mw_203)) rfl dP_clipped_69 ?_
          refine kc_vp (As := []) (rest := []) (ci := 6) (q0 := 6) S (c_C_steps l dC dI ad kc nn σ (P := fun r => (σ 6 6) = r) rfl) (cwV 0 hts (gV mw_691 mw_692 mw_693 mw_8 k_C_steps) rfl rfl rfl (by decide +kernel) ⟨Nat.le_of_ble_eq_true rfl, Nat.le_of_ble_eq_true rfl⟩) hK hN hW.1 rfl rfl rfl hl.1 rfl (Nat.le_of_ble_eq_true rfl) dP_clipped_72 ⟨Nat.zero_le _, Nat.zero_le _⟩ (fun r3 hp => ?_)
          subst hp
          exact k_iret hx hb hr hlocks hW dP_clipped_75 h
        · have h := hf c4
          refine lv_aload_n hx hb dP_clipped_58 rfl (lv_at hl 0 rfl) ?_
          refine k_get (ci := 0) (C := R_P) (T := T_P) (N := 7) hx hb hts (fun w q => gG_in (inG_P w q)) hown hK hW.1 0 rfl rfl 5 (by decide) (hts _ (gG_in mw_203)) rfl dP_clipped_59 ?_
          refine kc_vp (As := []) (rest := []) (ci := 6) (q0 := 6) S (c_C_waste l dC dI ad kc nn σ (P := fun r => (σ 6 9) = r) rfl) (cwV 0 hts (gV mw_687 mw_688 mw_689 mw_8 k_C_waste) rfl rfl rfl (by decide +kernel) ⟨Nat.le_of_ble_eq_true rfl, Nat.le_of_ble_eq_true rfl⟩) hK hN hW.1 rfl rfl rfl hl.1 rfl (Nat.le_of_ble_eq_true rfl) dP_clipped_62 ⟨Nat.zero_le _, Nat.zero_le _⟩ (fun r4 hp => ?_)
          subst hp
          refine lv_goto (tgt := 75) hx hb dP_clipped_65 (by decide) ?_
          exact k_iret hx hb hr hlocks hW dP_clipped_75 h
      · have h := hf c3
        refine lv_aload_n hx hb dP_clipped_43 rfl (lv_at hl 0 rfl) ?_
        refine k_get (ci := 0) (C := R_P) (T := T_P) (N := 7) hx hb hts (fun w q => gG_in (inG_P w q)) hown hK hW.1 0 rfl rfl 5 (by decide) (hts _ (gG_in mw_203)) rfl dP_clipped_44 ?_
        refine kc_vp (As := []) (rest := []) (ci := 6) (q0 := 6) S (c_C_worth l dC dI ad kc nn σ (P := fun r => (σ 6 8) = r) rfl) (cwV 0 hts (gV mw_683 mw_684 mw_685 mw_8 k_C_worth) rfl rfl rfl (by decide +kernel) ⟨Nat.le_of_ble_eq_true rfl, Nat.le_of_ble_eq_true rfl⟩) hK hN hW.1 rfl rfl rfl hl.1 rfl (Nat.le_of_ble_eq_true rfl) dP_clipped_47 ⟨Nat.zero_le _, Nat.zero_le _⟩ (fun r5 hp => ?_)
        subst hp
        refine lv_goto (tgt := 75) hx hb dP_clipped_50 (by decide) ?_
        exact k_iret hx hb hr hlocks hW dP_clipped_75 h
    · have h := hf c2
      exact False.elim h
  · have h := hf c1
    exact False.elim h
abbrev rm_P_shrink : Room := { frames := 6, cells := 0, slots := 0, locals := 82 }
set_option maxHeartbeats 4000000 in
set_option maxRecDepth 100000 in
theorem c_P_shrink (l : Launch) (dC : Nat → ClassId) (dI : Nat → Nat → Nat) (ad : Nat → Nat) (kc : Nat → ClassId) (nn : Nat → Nat) (σ : kM) (p0 : Int) (p1 : Int) (p2 : Int) {P : Int → kM → Prop} (h : wp_P_shrink nn σ p0 p1 p2 P (fun _ _ => False)) : kMi l y_P_shrink ws_P_shrink rm_P_shrink (dC, dI) vwC (tyC kc) (wC ad kc nn) nsG σ [.ref (ad 0), .int (iI p0), .int (iI p1), .int (iI p2)] P := by
  intro sz
  refine k_enter (cc := b_P_shrink) (maxL := 4) (ret := (some .int)) (by decide) rfl (Nat.le_of_ble_eq_true rfl) ?_
  intro p e s m below meth c ls S hr hlocks hsz hA hW hK hN hl
  generalize va_A ((wC ad kc nn) σ) sz = A at hA hW ⊢
  generalize ([.ref (ad 0), .int (iI p0), .int (iI p1), .int (iI p2)] : List Value).toArray = args at S ⊢
  obtain ⟨hx, hb, hml, hown, hts⟩ := id S
  have hl : lv_has ls 4 [(0, .ref (ad 0)), (1, .int (iI p0)), (2, .int (iI p1)), (3, .int (iI p2))] := hl
  unfold wp_P_shrink at h
  refine lv_aload_n hx hb dP_shrink_0 rfl (lv_at hl 0 rfl) ?_
  refine k_get (ci := 0) (C := R_P) (T := T_P) (N := 7) hx hb hts (fun w q => gG_in (inG_P w q)) hown hK hW.1 0 rfl rfl 4 (by decide) (hts _ (gG_in mw_202)) rfl dP_shrink_1 ?_
  refine lv_iload_n hx hb dP_shrink_4 rfl (lv_at hl 1 rfl) ?_
  obtain ⟨P1, g1, h⟩ := h
  refine kc_vp (As := [.int (iI p0)]) (rest := []) (ci := 5) (q0 := 5) S (c_L_has l dC dI ad kc nn σ p0 g1) (cwV 1 hts (gV mw_575 mw_576 mw_577 mw_7 k_L_has) rfl rfl rfl (by decide +kernel) ⟨Nat.le_of_ble_eq_true rfl, Nat.le_of_ble_eq_true rfl⟩) hK hN hW.1 rfl rfl rfl hl.1 rfl (Nat.le_of_ble_eq_true rfl) dP_shrink_5 ⟨Nat.zero_le _, Nat.zero_le _⟩ (fun r1 hp => ?_)
  have h := h r1 hp
  obtain ⟨q1, h⟩ := h
  obtain ⟨ht, hf⟩ := h
  refine ki_if_ne (tgt := 21) hx hb dP_shrink_8 (by decide) q1 (fun c1 => ?_) (fun c1 => ?_)
  · have h := ht c1
    refine lv_iload_n hx hb dP_shrink_21 rfl (lv_at hl 3 rfl) ?_
    refine lv_iconst (v := iI 1) hx hb dP_shrink_22 rfl ?_
    refine lv_sipush (v := iI 1000) hx hb dP_shrink_23 (by decide) ?_
    obtain ⟨P2, g2, h⟩ := h
    refine kc_sp (As := [.int (iI p2), .int (iI 1), .int (iI 1000)]) (rest := []) S (c_P_isWithin l dC dI (tyC kc) (wC ad kc nn) nn σ p2 1 1000 g2) (cwS 3 hts (gS mw_417 mw_270 mw_1 k_P_isWithin) rfl rfl rfl (by decide +kernel) ⟨Nat.le_of_ble_eq_true rfl, Nat.le_of_ble_eq_true rfl⟩) hK hN hW.1 rfl hl.1 rfl (Nat.le_of_ble_eq_true rfl) dP_shrink_26 ⟨Nat.zero_le _, Nat.zero_le _⟩ (fun r2 hp => ?_)
    have h := h r2 hp
    obtain ⟨q2, h⟩ := h
    obtain ⟨ht, hf⟩ := h
    refine ki_if_eq (tgt := 41) hx hb dP_shrink_29 (by decide) q2 (fun c2 => ?_) (fun c2 => ?_)
    · have h := ht c2
      exact False.elim h
    · have h := hf c2
      refine lv_iload_n hx hb dP_shrink_32 rfl (lv_at hl 2 rfl) ?_
      refine lv_iconst (v := iI 0) hx hb dP_shrink_33 rfl ?_
      refine lv_iload_n hx hb dP_shrink_34 rfl (lv_at hl 3 rfl) ?_
      obtain ⟨P3, g3, h⟩ := h
      refine kc_sp (As := [.int (iI p1), .int (iI 0), .int (iI p2)]) (rest := []) S (c_P_isWithin l dC dI (tyC kc) (wC ad kc nn) nn σ p1 0 p2 g3) (cwS 3 hts (gS mw_417 mw_270 mw_1 k_P_isWithin) rfl rfl rfl (by decide +kernel) ⟨Nat.le_of_ble_eq_true rfl, Nat.le_of_ble_eq_true rfl⟩) hK hN hW.1 rfl hl.1 rfl (Nat.le_of_ble_eq_true rfl) dP_shrink_35 ⟨Nat.zero_le _, Nat.zero_le _⟩ (fun r3 hp => ?_)
      have h := h r3 hp
      obtain ⟨q3, h⟩ := h
      obtain ⟨ht, hf⟩ := h
      refine ki_if_ne (tgt := 51) hx hb dP_shrink_38 (by decide) q3 (fun c3 => ?_) (fun c3 => ?_)
      · have h := ht c3
        refine lv_aload_n hx hb dP_shrink_51 rfl (lv_at hl 0 rfl) ?_
        refine k_get (ci := 0) (C := R_P) (T := T_P) (N := 7) hx hb hts (fun w q => gG_in (inG_P w q)) hown hK hW.1 0 rfl rfl 4 (by decide) (hts _ (gG_in mw_202)) rfl dP_shrink_52 ?_
        refine lv_iload_n hx hb dP_shrink_55 rfl (lv_at hl 1 rfl) ?_
        obtain ⟨P4, g4, h⟩ := h
        refine kc_vp (As := [.int (iI p0)]) (rest := []) (ci := 5) (q0 := 5) S (c_L_width l dC dI ad kc nn σ p0 g4) (cwV 1 hts (gV mw_704 mw_634 mw_635 mw_7 k_L_width) rfl rfl rfl (by decide +kernel) ⟨Nat.le_of_ble_eq_true rfl, Nat.le_of_ble_eq_true rfl⟩) hK hN hW.1 rfl rfl rfl hl.1 rfl (Nat.le_of_ble_eq_true rfl) dP_shrink_56 ⟨Nat.zero_le _, Nat.zero_le _⟩ (fun r4 hp => ?_)
        have h := h r4 hp
        refine lv_iload_n hx hb dP_shrink_59 rfl (lv_at hl 2 rfl) ?_
        refine ki_mul hx hb dP_shrink_60 ?_
        refine lv_iload_n hx hb dP_shrink_61 rfl (lv_at hl 3 rfl) ?_
        obtain ⟨q4, h⟩ := h
        refine ki_div hx hb dP_shrink_62 q4 ?_
        exact k_iret hx hb hr hlocks hW dP_shrink_63 h
      · have h := hf c3
        exact False.elim h
  · have h := hf c1
    exact False.elim h
abbrev rm_K_isBelowLast : Room := { frames := 0, cells := 0, slots := 0, locals := 0 }
set_option maxHeartbeats 4000000 in
set_option maxRecDepth 100000 in
theorem c_K_isBelowLast (l : Launch) (dC : Nat → ClassId) (dI : Nat → Nat → Nat) (ad : Nat → Nat) (kc : Nat → ClassId) (nn : Nat → Nat) (σ : kM) (p0 : Int) {P : Int → Prop} (h : wp_K_isBelowLast nn σ p0 P) : kMp l y_K_isBelowLast ws_K_isBelowLast rm_K_isBelowLast (dC, dI) vwC (tyC kc) (wC ad kc nn) nsG σ [.ref (ad 7), .int (iI p0)] P := by
  refine k_enterP (cc := b_K_isBelowLast) (maxL := 2) (ret := (some .boolean)) (by decide) rfl (Nat.le_of_ble_eq_true rfl) ?_
  intro p e s m below meth c ls S hr hlocks hP hK hN hl
  generalize ([.ref (ad 7), .int (iI p0)] : List Value).toArray = args at S ⊢
  obtain ⟨hx, hb, hml, hown, hts⟩ := id S
  have hl : lv_has ls 2 [(0, .ref (ad 7)), (1, .int (iI p0))] := hl
  unfold wp_K_isBelowLast at h
  refine lv_aload_n hx hb dK_isBelowLast_0 rfl (lv_at hl 0 rfl) ?_
  refine k_get (ci := 7) (C := R_K) (T := T_K) (N := 3) hx hb hts (fun w q => gG_in (inG_K w q)) hown hK hP 7 rfl rfl 2 (by decide) (hts _ (gG_in mw_190)) rfl dK_isBelowLast_1 ?_
  obtain ⟨q1, h⟩ := h
  obtain ⟨ht, hf⟩ := h
  refine ki_if_eq (tgt := 22) hx hb dK_isBelowLast_4 (by decide) q1 (fun c1 => ?_) (fun c1 => ?_)
  · have h := ht c1
    refine lv_iconst (v := iI 1) hx hb dK_isBelowLast_22 rfl ?_
    refine lv_goto (tgt := 27) hx hb dK_isBelowLast_23 (by decide) ?_
    exact k_zretP hx hb hr hlocks dK_isBelowLast_27 (by decide) h
  · have h := hf c1
    refine lv_iload_n hx hb dK_isBelowLast_7 rfl (lv_at hl 1 rfl) ?_
    refine lv_aload_n hx hb dK_isBelowLast_8 rfl (lv_at hl 0 rfl) ?_
    refine k_get (ci := 7) (C := R_K) (T := T_K) (N := 3) hx hb hts (fun w q => gG_in (inG_K w q)) hown hK hP 7 rfl rfl 0 (by decide) (hts _ (gG_in mw_188)) rfl dK_isBelowLast_9 ?_
    refine lv_aload_n hx hb dK_isBelowLast_12 rfl (lv_at hl 0 rfl) ?_
    refine k_get (ci := 7) (C := R_K) (T := T_K) (N := 3) hx hb hts (fun w q => gG_in (inG_K w q)) hown hK hP 7 rfl rfl 2 (by decide) (hts _ (gG_in mw_190)) rfl dK_isBelowLast_13 ?_
    refine lv_iconst (v := iI 1) hx hb dK_isBelowLast_16 rfl ?_
    refine ki_sub hx hb dK_isBelowLast_17 ?_
    obtain ⟨q2, h⟩ := h
    refine k_iald hx hb hK hP 24 16 (σ 24) rfl rfl q2 dK_isBelowLast_18 ?_
    obtain ⟨q3, h⟩ := h
    obtain ⟨q4, h⟩ := h
    obtain ⟨ht, hf⟩ := h
    refine ki_icmp_ge (tgt := 26) hx hb dK_isBelowLast_19 (by decide) q3 q4 (fun c2 => ?_) (fun c2 => ?_)
    · have h := ht c2
      refine lv_iconst (v := iI 0) hx hb dK_isBelowLast_26 rfl ?_
      exact k_zretP hx hb hr hlocks dK_isBelowLast_27 (by decide) h
    · have h := hf c2
      refine lv_iconst (v := iI 1) hx hb dK_isBelowLast_22 rfl ?_
      refine lv_goto (tgt := 27) hx hb dK_isBelowLast_23 (by decide) ?_
      exact k_zretP hx hb hr hlocks dK_isBelowLast_27 (by decide) h
abbrev rm_K_add : Room := { frames := 0, cells := 0, slots := 0, locals := 0 }
set_option maxHeartbeats 4000000 in
set_option maxRecDepth 100000 in
theorem c_K_add (l : Launch) (dC : Nat → ClassId) (dI : Nat → Nat → Nat) (ad : Nat → Nat) (kc : Nat → ClassId) (nn : Nat → Nat) (σ : kM) (p0 : Int) (p1 : Int) {P : Int → kM → Prop} (h : wp_K_add nn σ p0 p1 P) : kMi l y_K_add ws_K_add rm_K_add (dC, dI) vwC (tyC kc) (wC ad kc nn) nsG σ [.ref (ad 7), .int (iI p0), .int (iI p1)] P := by
  intro sz
  refine k_enter (cc := b_K_add) (maxL := 3) (ret := (some .boolean)) (by decide) rfl (Nat.le_of_ble_eq_true rfl) ?_
  intro p e s m below meth c ls S hr hlocks hsz hA hW hK hN hl
  generalize va_A ((wC ad kc nn) σ) sz = A at hA hW ⊢
  generalize ([.ref (ad 7), .int (iI p0), .int (iI p1)] : List Value).toArray = args at S ⊢
  obtain ⟨hx, hb, hml, hown, hts⟩ := id S
  have hl : lv_has ls 3 [(0, .ref (ad 7)), (1, .int (iI p0)), (2, .int (iI p1))] := hl
  unfold wp_K_add at h
  refine lv_aload_n hx hb dK_add_0 rfl (lv_at hl 0 rfl) ?_
  refine k_get (ci := 7) (C := R_K) (T := T_K) (N := 3) hx hb hts (fun w q => gG_in (inG_K w q)) hown hK hW.1 7 rfl rfl 2 (by decide) (hts _ (gG_in mw_190)) rfl dK_add_1 ?_
  refine lv_bipush (v := iI 8) hx hb dK_add_4 (by decide) ?_
  obtain ⟨q1, h⟩ := h
  obtain ⟨ht, hf⟩ := h
  refine ki_icmp_lt (tgt := 11) hx hb dK_add_6 (by decide) q1 (by constructor <;> decide) (fun c1 => ?_) (fun c1 => ?_)
  · have h := ht c1
    refine lv_aload_n hx hb dK_add_11 rfl (lv_at hl 0 rfl) ?_
    refine k_get (ci := 7) (C := R_K) (T := T_K) (N := 3) hx hb hts (fun w q => gG_in (inG_K w q)) hown hK hW.1 7 rfl rfl 0 (by decide) (hts _ (gG_in mw_188)) rfl dK_add_12 ?_
    refine lv_aload_n hx hb dK_add_15 rfl (lv_at hl 0 rfl) ?_
    refine k_get (ci := 7) (C := R_K) (T := T_K) (N := 3) hx hb hts (fun w q => gG_in (inG_K w q)) hown hK hW.1 7 rfl rfl 2 (by decide) (hts _ (gG_in mw_190)) rfl dK_add_16 ?_
    refine lv_iload_n hx hb dK_add_19 rfl (lv_at hl 1 rfl) ?_
    obtain ⟨q2, h⟩ := h
    obtain ⟨s1, es1⟩ : ∃ z : kM, z = va_up σ 24 (va_up (σ 24) (σ 7 2).toNat p0) := ⟨_, rfl⟩
    refine k_iast (ws' := wC ad kc nn s1) hx hb hK hW 24 16 (σ 24) rfl rfl q2 (by rw [es1]; exact wC_a24 ..) dK_add_20 (fun H locs hW => ?_)
    have h := h s1 es1
    refine lv_aload_n hx hb dK_add_21 rfl (lv_at hl 0 rfl) ?_
    refine k_get (ci := 7) (C := R_K) (T := T_K) (N := 3) hx hb hts (fun w q => gG_in (inG_K w q)) hown hK hW.1 7 rfl rfl 1 (by decide) (hts _ (gG_in mw_189)) rfl dK_add_22 ?_
    refine lv_aload_n hx hb dK_add_25 rfl (lv_at hl 0 rfl) ?_
    refine k_get (ci := 7) (C := R_K) (T := T_K) (N := 3) hx hb hts (fun w q => gG_in (inG_K w q)) hown hK hW.1 7 rfl rfl 2 (by decide) (hts _ (gG_in mw_190)) rfl dK_add_26 ?_
    refine lv_iload_n hx hb dK_add_29 rfl (lv_at hl 2 rfl) ?_
    obtain ⟨q3, h⟩ := h
    obtain ⟨s2, es2⟩ : ∃ z : kM, z = va_up s1 25 (va_up (s1 25) (s1 7 2).toNat p1) := ⟨_, rfl⟩
    refine k_iast (ws' := wC ad kc nn s2) hx hb hK hW 25 17 (s1 25) rfl rfl q3 (by rw [es2]; exact wC_a25 ..) dK_add_30 (fun H locs hW => ?_)
    have h := h s2 es2
    refine lv_aload_n hx hb dK_add_31 rfl (lv_at hl 0 rfl) ?_
    refine lv_dup hx hb dK_add_32 rfl ?_
    refine k_get (ci := 7) (C := R_K) (T := T_K) (N := 3) hx hb hts (fun w q => gG_in (inG_K w q)) hown hK hW.1 7 rfl rfl 2 (by decide) (hts _ (gG_in mw_190)) rfl dK_add_33 ?_
    refine lv_iconst (v := iI 1) hx hb dK_add_36 rfl ?_
    refine ki_add hx hb dK_add_37 ?_
    obtain ⟨s3, es3⟩ : ∃ z : kM, z = va_up s2 7 (va_up (s2 7) 2 ((s2 7 2) + 1)) := ⟨_, rfl⟩
    refine k_put (ty := .int) (ws' := wC ad kc nn s3) (ci := 7) (C := R_K) (T := T_K) (N := 3) hx hb hts (fun w q => gG_in (inG_K w q)) ty_K tk_K nm_K hown hK hW 7 rfl rfl 2 (by decide) (hts _ (gG_in mw_190)) rfl (by decide +kernel) rfl rfl (Nat.le_of_ble_eq_true rfl) (by rw [es3]; exact wC_p7_2 ..) dK_add_38 (fun H locs hW => ?_)
    have h := h s3 es3
    refine lv_iconst (v := iI 1) hx hb dK_add_41 rfl ?_
    exact k_zret hx hb hr hlocks hW dK_add_42 (by decide) h
  · have h := hf c1
    refine lv_iconst (v := iI 0) hx hb dK_add_9 rfl ?_
    exact k_zret hx hb hr hlocks hW dK_add_10 (by decide) h
abbrev rm_P_row : Room := { frames := 6, cells := 0, slots := 0, locals := 82 }
set_option maxHeartbeats 4000000 in
set_option maxRecDepth 100000 in
theorem c_P_row (l : Launch) (dC : Nat → ClassId) (dI : Nat → Nat → Nat) (ad : Nat → Nat) (kc : Nat → ClassId) (nn : Nat → Nat) (σ : kM) (p0 : Int) (p1 : Int) {P : Int → kM → Prop} (h : wp_P_row nn σ p0 p1 P (fun _ _ => False)) : kMi l y_P_row ws_P_row rm_P_row (dC, dI) vwC (tyC kc) (wC ad kc nn) nsG σ [.ref (ad 0), .int (iI p0), .int (iI p1)] P := by
  intro sz
  refine k_enter (cc := b_P_row) (maxL := 3) (ret := (some .boolean)) (by decide) rfl (Nat.le_of_ble_eq_true rfl) ?_
  intro p e s m below meth c ls S hr hlocks hsz hA hW hK hN hl
  generalize va_A ((wC ad kc nn) σ) sz = A at hA hW ⊢
  generalize ([.ref (ad 0), .int (iI p0), .int (iI p1)] : List Value).toArray = args at S ⊢
  obtain ⟨hx, hb, hml, hown, hts⟩ := id S
  have hl : lv_has ls 3 [(0, .ref (ad 0)), (1, .int (iI p0)), (2, .int (iI p1))] := hl
  unfold wp_P_row at h
  refine lv_iload_n hx hb dP_row_0 rfl (lv_at hl 1 rfl) ?_
  refine lv_iconst (v := iI 0) hx hb dP_row_1 rfl ?_
  refine lv_sipush (v := iI 1000) hx hb dP_row_2 (by decide) ?_
  obtain ⟨P1, g1, h⟩ := h
  refine kc_sp (As := [.int (iI p0), .int (iI 0), .int (iI 1000)]) (rest := []) S (c_P_isWithin l dC dI (tyC kc) (wC ad kc nn) nn σ p0 0 1000 g1) (cwS 3 hts (gS mw_417 mw_270 mw_1 k_P_isWithin) rfl rfl rfl (by decide +kernel) ⟨Nat.le_of_ble_eq_true rfl, Nat.le_of_ble_eq_true rfl⟩) hK hN hW.1 rfl hl.1 rfl (Nat.le_of_ble_eq_true rfl) dP_row_5 ⟨Nat.zero_le _, Nat.zero_le _⟩ (fun r1 hp => ?_)
  have h := h r1 hp
  obtain ⟨q1, h⟩ := h
  obtain ⟨ht, hf⟩ := h
  refine ki_if_eq (tgt := 33) hx hb dP_row_8 (by decide) q1 (fun c1 => ?_) (fun c1 => ?_)
  · have h := ht c1
    exact False.elim h
  · have h := hf c1
    refine lv_aload_n hx hb dP_row_11 rfl (lv_at hl 0 rfl) ?_
    refine k_get (ci := 0) (C := R_P) (T := T_P) (N := 7) hx hb hts (fun w q => gG_in (inG_P w q)) hown hK hW.1 0 rfl rfl 6 (by decide) (hts _ (gG_in mw_204)) rfl dP_row_12 ?_
    refine lv_iload_n hx hb dP_row_15 rfl (lv_at hl 1 rfl) ?_
    obtain ⟨P2, g2, h⟩ := h
    refine kc_vp (As := [.int (iI p0)]) (rest := []) (ci := 7) (q0 := 7) S (c_K_isBelowLast l dC dI ad kc nn σ p0 g2) (cwV 1 hts (gV mw_712 mw_713 mw_714 mw_9 k_K_isBelowLast) rfl rfl rfl (by decide +kernel) ⟨Nat.le_of_ble_eq_true rfl, Nat.le_of_ble_eq_true rfl⟩) hK hN hW.1 rfl rfl rfl hl.1 rfl (Nat.le_of_ble_eq_true rfl) dP_row_16 ⟨Nat.zero_le _, Nat.zero_le _⟩ (fun r2 hp => ?_)
    have h := h r2 hp
    obtain ⟨q2, h⟩ := h
    obtain ⟨ht, hf⟩ := h
    refine ki_if_eq (tgt := 33) hx hb dP_row_19 (by decide) q2 (fun c2 => ?_) (fun c2 => ?_)
    · have h := ht c2
      exact False.elim h
    · have h := hf c2
      refine lv_iload_n hx hb dP_row_22 rfl (lv_at hl 2 rfl) ?_
      refine lv_bipush (v := iI (-100)) hx hb dP_row_23 (by decide) ?_
      refine lv_bipush (v := iI 100) hx hb dP_row_25 (by decide) ?_
      obtain ⟨P3, g3, h⟩ := h
      refine kc_sp (As := [.int (iI p1), .int (iI (-100)), .int (iI 100)]) (rest := []) S (c_P_isWithin l dC dI (tyC kc) (wC ad kc nn) nn σ p1 (-100) 100 g3) (cwS 3 hts (gS mw_417 mw_270 mw_1 k_P_isWithin) rfl rfl rfl (by decide +kernel) ⟨Nat.le_of_ble_eq_true rfl, Nat.le_of_ble_eq_true rfl⟩) hK hN hW.1 rfl hl.1 rfl (Nat.le_of_ble_eq_true rfl) dP_row_27 ⟨Nat.zero_le _, Nat.zero_le _⟩ (fun r3 hp => ?_)
      have h := h r3 hp
      obtain ⟨q3, h⟩ := h
      obtain ⟨ht, hf⟩ := h
      refine ki_if_ne (tgt := 43) hx hb dP_row_30 (by decide) q3 (fun c3 => ?_) (fun c3 => ?_)
      · have h := ht c3
        refine lv_aload_n hx hb dP_row_43 rfl (lv_at hl 0 rfl) ?_
        refine k_get (ci := 0) (C := R_P) (T := T_P) (N := 7) hx hb hts (fun w q => gG_in (inG_P w q)) hown hK hW.1 0 rfl rfl 6 (by decide) (hts _ (gG_in mw_204)) rfl dP_row_44 ?_
        refine lv_iload_n hx hb dP_row_47 rfl (lv_at hl 1 rfl) ?_
        refine lv_iload_n hx hb dP_row_48 rfl (lv_at hl 2 rfl) ?_
        obtain ⟨P4, g4, h⟩ := h
        refine kc_vi (As := [.int (iI p0), .int (iI p1)]) (rest := []) (ci := 7) (q0 := 7) S (c_K_add l dC dI ad kc nn σ p0 p1 g4) (cwV 2 hts (gV mw_717 mw_718 mw_719 mw_9 k_K_add) rfl rfl rfl (by decide +kernel) ⟨Nat.le_of_ble_eq_true rfl, Nat.le_of_ble_eq_true rfl⟩) hK hN hA hW (fun _ => rfl) rfl rfl rfl hl.1 rfl (Nat.le_of_ble_eq_true rfl) dP_row_49 ⟨Nat.zero_le _, Nat.zero_le _⟩ (fun r4 s1 H locs hp hW => ?_)
        have h := h r4 s1 hp
        exact k_zret hx hb hr hlocks hW dP_row_52 h.1 h.2
      · have h := hf c3
        exact False.elim h
end
section
abbrev rm_K_answerAt : Room := { frames := 0, cells := 0, slots := 0, locals := 0 }
set_option maxHeartbeats 4000000 in
set_option maxRecDepth 100000 in
theorem c_K_answerAt (l : Launch) (dC : Nat → ClassId) (dI : Nat → Nat → Nat) (ad : Nat → Nat) (kc : Nat → ClassId) (nn : Nat → Nat) (σ : kM) (p0 : Int) {P : Int → Prop} (h : wp_K_answerAt nn σ p0 P) : kMp l y_K_answerAt ws_K_answerAt rm_K_answerAt (dC, dI) vwC (tyC kc) (wC ad kc nn) nsG σ [.ref (ad 7), .int (iI p0)] P := by
  refine k_enterP (cc := b_K_answerAt) (maxL := 3) (ret := (some .int)) (by decide) rfl (Nat.le_of_ble_eq_true rfl) ?_
  intro p e s m below meth c ls S hr hlocks hP hK hN hl
  generalize ([.ref (ad 7), .int (iI p0)] : List Value).toArray = args at S ⊢
  obtain ⟨hx, hb, hml, hown, hts⟩ := id S
  have hl : lv_has ls 3 [(0, .ref (ad 7)), (1, .int (iI p0))] := hl
  unfold wp_K_answerAt at h
  refine lv_aload_n hx hb dK_answerAt_0 rfl (lv_at hl 0 rfl) ?_
  refine k_get (ci := 7) (C := R_K) (T := T_K) (N := 3) hx hb hts (fun w q => gG_in (inG_K w q)) hown hK hP 7 rfl rfl 2 (by decide) (hts _ (gG_in mw_190)) rfl dK_answerAt_1 ?_
  refine lv_iconst (v := iI 1) hx hb dK_answerAt_4 rfl ?_
  refine ki_sub hx hb dK_answerAt_5 ?_
  refine ki_nm (fun v1 ev1 => ?_)
  have h := h v1 ev1
  refine lv_istore_n (lv' := [(2, .int (iI v1)), (0, .ref (ad 7)), (1, .int (iI p0))]) hx hb dK_answerAt_6 rfl hl (by decide) rfl (fun ls hl => ?_)
  obtain ⟨Pe1, k1, h, hk1⟩ := h
  have xW1 : ∀ (v3 : Int) (ls : Array Slot), lv_has ls 3 [] → Pe1 v3 → W p l e (headSpec ws_K_answerAt rm_K_answerAt).room s m args below meth c s.heap [] 0 0 (MQ below (kQp P) args s 0 0 (fun _ => False)) (F0 m 38 ls []) := by
    intro v3 ls hl h
    have h := hk1 v3 h
    refine lv_iconst (v := iI (-1)) hx hb dK_answerAt_38 rfl ?_
    exact k_iretP hx hb hr hlocks dK_answerAt_39 h
  have lW1 : ∀ (ki1 : Nat) (v2 : Int) (ls : Array Slot), lv_has ls 3 [(2, .int (iI v2)), (0, .ref (ad 7)), (1, .int (iI p0))] → lp_K_answerAt_7 nn p0 σ P Pe1 ki1 v2 → W p l e (headSpec ws_K_answerAt rm_K_answerAt).room s m args below meth c s.heap [] 0 0 (MQ below (kQp P) args s 0 0 (fun _ => False)) (F0 m 7 ls []) := by
    intro ki1
    induction ki1 with
    | zero => intro v2 ls hl h; exact h.elim
    | succ ki1 ih1 =>
      intro v2 ls hl h
      have h : lpB_K_answerAt_7 nn p0 σ P Pe1 (lp_K_answerAt_7 nn p0 σ P Pe1 ki1) v2 := h
      unfold lpB_K_answerAt_7 at h
      refine lv_iload_n hx hb dK_answerAt_7 rfl (lv_at hl 0 rfl) ?_
      obtain ⟨q1, h⟩ := h
      obtain ⟨ht, hf⟩ := h
      refine ki_if_lt (tgt := 38) hx hb dK_answerAt_8 (by decide) q1 (fun c1 => ?_) (fun c1 => ?_)
      · have h := ht c1
        exact xW1 v2 ls (lv_sub hl [] rfl) h
      · have h := hf c1
        refine lv_aload_n hx hb dK_answerAt_11 rfl (lv_at hl 1 rfl) ?_
        refine k_get (ci := 7) (C := R_K) (T := T_K) (N := 3) hx hb hts (fun w q => gG_in (inG_K w q)) hown hK hP 7 rfl rfl 0 (by decide) (hts _ (gG_in mw_188)) rfl dK_answerAt_12 ?_
        refine lv_iload_n hx hb dK_answerAt_15 rfl (lv_at hl 0 rfl) ?_
        obtain ⟨q2, h⟩ := h
        refine k_iald hx hb hK hP 24 16 (σ 24) rfl rfl q2 dK_answerAt_16 ?_
        refine lv_iload_n hx hb dK_answerAt_17 rfl (lv_at hl 2 rfl) ?_
        obtain ⟨q3, h⟩ := h
        obtain ⟨q4, h⟩ := h
        obtain ⟨ht, hf⟩ := h
        refine ki_icmp_lt (tgt := 32) hx hb dK_answerAt_18 (by decide) q3 q4 (fun c2 => ?_) (fun c2 => ?_)
        · have h := ht c2
          obtain ⟨v4, ev4⟩ : ∃ z : Int, z = v2 + (-1) := ⟨_, rfl⟩
          refine lv_iinc (v := iI v4) (lv' := [(2, .int (iI v4)), (0, .ref (ad 7)), (1, .int (iI p0))]) hx hb dK_answerAt_32 hl (k := 0) rfl (by rw [ev4, ← iI_add]; rfl) (by decide) rfl (fun ls hl => ?_)
          have h := h v4 ev4
          refine lv_goto (tgt := 7) hx hb dK_answerAt_35 (by decide) ?_
          exact ih1 v4 ls (lv_sub hl [0, 1, 2] rfl) h
        · have h := hf c2
          refine lv_aload_n hx hb dK_answerAt_21 rfl (lv_at hl 1 rfl) ?_
          refine k_get (ci := 7) (C := R_K) (T := T_K) (N := 3) hx hb hts (fun w q => gG_in (inG_K w q)) hown hK hP 7 rfl rfl 1 (by decide) (hts _ (gG_in mw_189)) rfl dK_answerAt_22 ?_
          refine lv_iload_n hx hb dK_answerAt_25 rfl (lv_at hl 0 rfl) ?_
          obtain ⟨q5, h⟩ := h
          refine k_iald hx hb hK hP 25 17 (σ 25) rfl rfl q5 dK_answerAt_26 ?_
          refine lv_sipush (v := iI 1000) hx hb dK_answerAt_27 (by decide) ?_
          refine ki_add hx hb dK_answerAt_30 ?_
          exact k_iretP hx hb hr hlocks dK_answerAt_31 h
  exact lW1 k1 v1 ls (lv_sub hl [0, 1, 2] rfl) h
abbrev rm_P_knife : Room := { frames := 6, cells := 0, slots := 0, locals := 82 }
set_option maxHeartbeats 4000000 in
set_option maxRecDepth 100000 in
theorem c_P_knife (l : Launch) (dC : Nat → ClassId) (dI : Nat → Nat → Nat) (ad : Nat → Nat) (kc : Nat → ClassId) (nn : Nat → Nat) (σ : kM) (p0 : Int) {P : Int → kM → Prop} (h : wp_P_knife nn σ p0 P (fun _ _ => False)) : kMi l y_P_knife ws_P_knife rm_P_knife (dC, dI) vwC (tyC kc) (wC ad kc nn) nsG σ [.ref (ad 0), .int (iI p0)] P := by
  intro sz
  refine k_enter (cc := b_P_knife) (maxL := 2) (ret := (some .int)) (by decide) rfl (Nat.le_of_ble_eq_true rfl) ?_
  intro p e s m below meth c ls S hr hlocks hsz hA hW hK hN hl
  generalize va_A ((wC ad kc nn) σ) sz = A at hA hW ⊢
  generalize ([.ref (ad 0), .int (iI p0)] : List Value).toArray = args at S ⊢
  obtain ⟨hx, hb, hml, hown, hts⟩ := id S
  have hl : lv_has ls 2 [(0, .ref (ad 0)), (1, .int (iI p0))] := hl
  unfold wp_P_knife at h
  refine lv_iload_n hx hb dP_knife_0 rfl (lv_at hl 1 rfl) ?_
  refine lv_iconst (v := iI 0) hx hb dP_knife_1 rfl ?_
  refine lv_sipush (v := iI 1000) hx hb dP_knife_2 (by decide) ?_
  obtain ⟨P1, g1, h⟩ := h
  refine kc_sp (As := [.int (iI p0), .int (iI 0), .int (iI 1000)]) (rest := []) S (c_P_isWithin l dC dI (tyC kc) (wC ad kc nn) nn σ p0 0 1000 g1) (cwS 3 hts (gS mw_417 mw_270 mw_1 k_P_isWithin) rfl rfl rfl (by decide +kernel) ⟨Nat.le_of_ble_eq_true rfl, Nat.le_of_ble_eq_true rfl⟩) hK hN hW.1 rfl hl.1 rfl (Nat.le_of_ble_eq_true rfl) dP_knife_5 ⟨Nat.zero_le _, Nat.zero_le _⟩ (fun r1 hp => ?_)
  have h := h r1 hp
  obtain ⟨q1, h⟩ := h
  obtain ⟨ht, hf⟩ := h
  refine ki_if_ne (tgt := 21) hx hb dP_knife_8 (by decide) q1 (fun c1 => ?_) (fun c1 => ?_)
  · have h := ht c1
    refine lv_aload_n hx hb dP_knife_21 rfl (lv_at hl 0 rfl) ?_
    refine k_get (ci := 0) (C := R_P) (T := T_P) (N := 7) hx hb hts (fun w q => gG_in (inG_P w q)) hown hK hW.1 0 rfl rfl 6 (by decide) (hts _ (gG_in mw_204)) rfl dP_knife_22 ?_
    refine lv_iload_n hx hb dP_knife_25 rfl (lv_at hl 1 rfl) ?_
    obtain ⟨P2, g2, h⟩ := h
    refine kc_vp (As := [.int (iI p0)]) (rest := []) (ci := 7) (q0 := 7) S (c_K_answerAt l dC dI ad kc nn σ p0 g2) (cwV 1 hts (gV mw_729 mw_730 mw_731 mw_9 k_K_answerAt) rfl rfl rfl (by decide +kernel) ⟨Nat.le_of_ble_eq_true rfl, Nat.le_of_ble_eq_true rfl⟩) hK hN hW.1 rfl rfl rfl hl.1 rfl (Nat.le_of_ble_eq_true rfl) dP_knife_26 ⟨Nat.zero_le _, Nat.zero_le _⟩ (fun r2 hp => ?_)
    have h := h r2 hp
    exact k_iret hx hb hr hlocks hW dP_knife_29 h
  · have h := hf c1
    exact False.elim h
abbrev rm_P_nearestOf : Room := { frames := 1, cells := 0, slots := 0, locals := 14 }
set_option maxHeartbeats 4000000 in
set_option maxRecDepth 100000 in
theorem c_P_nearestOf (l : Launch) (dC : Nat → ClassId) (dI : Nat → Nat → Nat) (tys : List (ClassId × FieldType)) (w : kM → va_W) (nn : Nat → Nat) (σ : kM) (p0 : Int) (p1 : Int) (p2 : Int) {P : Int → Prop} (h : wp_P_nearestOf nn σ p0 p1 p2 P) : kMp l y_P_nearestOf ws_P_nearestOf rm_P_nearestOf (dC, dI) vwC tys w nsG σ [.int (iI p0), .int (iI p1), .int (iI p2)] P := by
  refine k_enterP (cc := b_P_nearestOf) (maxL := 3) (ret := (some .int)) (by decide) rfl (Nat.le_of_ble_eq_true rfl) ?_
  intro p e s m below meth c ls S hr hlocks hP hK hN hl
  generalize ([.int (iI p0), .int (iI p1), .int (iI p2)] : List Value).toArray = args at S ⊢
  obtain ⟨hx, hb, hml, hown, hts⟩ := id S
  have hl : lv_has ls 3 [(0, .int (iI p0)), (1, .int (iI p1)), (2, .int (iI p2))] := hl
  unfold wp_P_nearestOf at h
  refine lv_iload_n hx hb dP_nearestOf_0 rfl (lv_at hl 1 rfl) ?_
  refine lv_iload_n hx hb dP_nearestOf_1 rfl (lv_at hl 2 rfl) ?_
  refine lv_iload_n hx hb dP_nearestOf_2 rfl (lv_at hl 0 rfl) ?_
  obtain ⟨q1, h⟩ := h
  obtain ⟨q2, h⟩ := h
  refine kmn hx hb (hml.trans hl.1.symm) hown (hts _ (gG_in mw_30)) (hts _ (gG_in mw_31)) (hts _ (gG_in mw_3)) (hts _ (gG_in mk_min)) ⟨Nat.le_of_ble_eq_true rfl, Nat.le_of_ble_eq_true rfl⟩ ⟨Nat.zero_le _, Nat.zero_le _⟩ q1 q2 dP_nearestOf_3 ?_
  obtain ⟨q3, h⟩ := h
  obtain ⟨q4, h⟩ := h
  refine kmx hx hb (hml.trans hl.1.symm) hown (hts _ (gG_in mw_33)) (hts _ (gG_in mw_34)) (hts _ (gG_in mw_3)) (hts _ (gG_in mk_max)) ⟨Nat.le_of_ble_eq_true rfl, Nat.le_of_ble_eq_true rfl⟩ ⟨Nat.zero_le _, Nat.zero_le _⟩ q3 q4 dP_nearestOf_6 ?_
  exact k_iretP hx hb hr hlocks dP_nearestOf_9 h
end
