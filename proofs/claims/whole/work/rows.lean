section
-- ===== PART A: goes FIRST, ahead of the names: the tables' words, and 'selects' of the private methods out of them =====
/-- a private method of a class that the tables say can be made, by its rows of tables_1 -/
def lw_okq (q : MethodName × Nat) : Prop := (q.1.cls ≠ "java/lang/invoke/MethodHandle" ∧ q.1.cls ≠ "java/lang/invoke/VarHandle") ∧ Cond.instantiable q.1.cls q.2 ∈ tables_1 ∧ Cond.privateMethod q.1 ∈ tables_1 ∧ Cond.instanceMethod q.1 ∈ tables_1
theorem lw_p0 : lw_okq (⟨"PeelRibbons$Axes", "seekIfStale", "()V"⟩, 4) := ⟨⟨by decide +kernel, by decide +kernel⟩, List.mem_of_getElem? (i := 69) (by decide +kernel), List.mem_of_getElem? (i := 229) (by decide +kernel), List.mem_of_getElem? (i := 230) (by decide +kernel)⟩
theorem lw_p1 : lw_okq (⟨"PeelRibbons$Axes", "seek", "()V"⟩, 4) := ⟨⟨by decide +kernel, by decide +kernel⟩, List.mem_of_getElem? (i := 69) (by decide +kernel), List.mem_of_getElem? (i := 233) (by decide +kernel), List.mem_of_getElem? (i := 234) (by decide +kernel)⟩
theorem lw_p2 : lw_okq (⟨"PeelRibbons$Axes", "keep", "(IIIII)V"⟩, 4) := ⟨⟨by decide +kernel, by decide +kernel⟩, List.mem_of_getElem? (i := 69) (by decide +kernel), List.mem_of_getElem? (i := 237) (by decide +kernel), List.mem_of_getElem? (i := 238) (by decide +kernel)⟩
theorem lw_p3 : lw_okq (⟨"PeelRibbons$Slices", "measure", "(I)V"⟩, 8) := ⟨⟨by decide +kernel, by decide +kernel⟩, List.mem_of_getElem? (i := 26) (by decide +kernel), List.mem_of_getElem? (i := 253) (by decide +kernel), List.mem_of_getElem? (i := 254) (by decide +kernel)⟩
theorem lw_p4 : lw_okq (⟨"PeelRibbons$Slices", "nearestInColumnOf", "(III)I"⟩, 8) := ⟨⟨by decide +kernel, by decide +kernel⟩, List.mem_of_getElem? (i := 26) (by decide +kernel), List.mem_of_getElem? (i := 257) (by decide +kernel), List.mem_of_getElem? (i := 258) (by decide +kernel)⟩
theorem lw_p5 : lw_okq (⟨"PeelRibbons$Slices", "isIn", "(III)Z"⟩, 8) := ⟨⟨by decide +kernel, by decide +kernel⟩, List.mem_of_getElem? (i := 26) (by decide +kernel), List.mem_of_getElem? (i := 262) (by decide +kernel), List.mem_of_getElem? (i := 263) (by decide +kernel)⟩
theorem lw_p6 : lw_okq (⟨"PeelRibbons$Slices", "indexOf", "(III)I"⟩, 8) := ⟨⟨by decide +kernel, by decide +kernel⟩, List.mem_of_getElem? (i := 26) (by decide +kernel), List.mem_of_getElem? (i := 273) (by decide +kernel), List.mem_of_getElem? (i := 274) (by decide +kernel)⟩
theorem lw_p7 : lw_okq (⟨"PeelRibbons$Slices", "gap", "(II)I"⟩, 8) := ⟨⟨by decide +kernel, by decide +kernel⟩, List.mem_of_getElem? (i := 26) (by decide +kernel), List.mem_of_getElem? (i := 277) (by decide +kernel), List.mem_of_getElem? (i := 278) (by decide +kernel)⟩
theorem lw_p8 : lw_okq (⟨"PeelRibbons$Slices", "nearestOverColumns", "(I)I"⟩, 8) := ⟨⟨by decide +kernel, by decide +kernel⟩, List.mem_of_getElem? (i := 26) (by decide +kernel), List.mem_of_getElem? (i := 282) (by decide +kernel), List.mem_of_getElem? (i := 283) (by decide +kernel)⟩
theorem lw_p9 : lw_okq (⟨"PeelRibbons$Axes", "seekFrom", "(II)V"⟩, 4) := ⟨⟨by decide +kernel, by decide +kernel⟩, List.mem_of_getElem? (i := 69) (by decide +kernel), List.mem_of_getElem? (i := 286) (by decide +kernel), List.mem_of_getElem? (i := 287) (by decide +kernel)⟩
theorem lw_p10 : lw_okq (⟨"PeelRibbons$Axes", "roomAbove", "(IIIII)I"⟩, 4) := ⟨⟨by decide +kernel, by decide +kernel⟩, List.mem_of_getElem? (i := 69) (by decide +kernel), List.mem_of_getElem? (i := 290) (by decide +kernel), List.mem_of_getElem? (i := 291) (by decide +kernel)⟩
theorem lw_p11 : lw_okq (⟨"PeelRibbons$Axes", "placeAt", "(III)I"⟩, 4) := ⟨⟨by decide +kernel, by decide +kernel⟩, List.mem_of_getElem? (i := 69) (by decide +kernel), List.mem_of_getElem? (i := 299) (by decide +kernel), List.mem_of_getElem? (i := 300) (by decide +kernel)⟩
theorem lw_p12 : lw_okq (⟨"java/lang/Throwable", "fillInStackTrace", "(I)Ljava/lang/Throwable;"⟩, 6) := ⟨⟨by decide +kernel, by decide +kernel⟩, List.mem_of_getElem? (i := 365) (by decide +kernel), List.mem_of_getElem? (i := 363) (by decide +kernel), List.mem_of_getElem? (i := 364) (by decide +kernel)⟩
theorem lw_p13 : lw_okq (⟨"PeelRibbons$Clipping", "markFaults", "(LPeelRibbons$Ribbon;LPeelRibbons$Faults;I)V"⟩, 10) := ⟨⟨by decide +kernel, by decide +kernel⟩, List.mem_of_getElem? (i := 145) (by decide +kernel), List.mem_of_getElem? (i := 608) (by decide +kernel), List.mem_of_getElem? (i := 609) (by decide +kernel)⟩
theorem lw_p14 : lw_okq (⟨"PeelRibbons$Clipping", "chooseFromTheEnd", "(LPeelRibbons$Leaves;)V"⟩, 10) := ⟨⟨by decide +kernel, by decide +kernel⟩, List.mem_of_getElem? (i := 145) (by decide +kernel), List.mem_of_getElem? (i := 621) (by decide +kernel), List.mem_of_getElem? (i := 622) (by decide +kernel)⟩
theorem lw_p15 : lw_okq (⟨"PeelRibbons$Clipping", "chooseAt", "(ILPeelRibbons$Leaves;)V"⟩, 10) := ⟨⟨by decide +kernel, by decide +kernel⟩, List.mem_of_getElem? (i := 145) (by decide +kernel), List.mem_of_getElem? (i := 629) (by decide +kernel), List.mem_of_getElem? (i := 630) (by decide +kernel)⟩
def lw_privs_1 : List (MethodName × Nat) := [(⟨"PeelRibbons$Axes", "seekIfStale", "()V"⟩, 4), (⟨"PeelRibbons$Axes", "seek", "()V"⟩, 4), (⟨"PeelRibbons$Axes", "keep", "(IIIII)V"⟩, 4), (⟨"PeelRibbons$Slices", "measure", "(I)V"⟩, 8), (⟨"PeelRibbons$Slices", "nearestInColumnOf", "(III)I"⟩, 8), (⟨"PeelRibbons$Slices", "isIn", "(III)Z"⟩, 8), (⟨"PeelRibbons$Slices", "indexOf", "(III)I"⟩, 8), (⟨"PeelRibbons$Slices", "gap", "(II)I"⟩, 8), (⟨"PeelRibbons$Slices", "nearestOverColumns", "(I)I"⟩, 8), (⟨"PeelRibbons$Axes", "seekFrom", "(II)V"⟩, 4), (⟨"PeelRibbons$Axes", "roomAbove", "(IIIII)I"⟩, 4), (⟨"PeelRibbons$Axes", "placeAt", "(III)I"⟩, 4), (⟨"java/lang/Throwable", "fillInStackTrace", "(I)Ljava/lang/Throwable;"⟩, 6), (⟨"PeelRibbons$Clipping", "markFaults", "(LPeelRibbons$Ribbon;LPeelRibbons$Faults;I)V"⟩, 10), (⟨"PeelRibbons$Clipping", "chooseFromTheEnd", "(LPeelRibbons$Leaves;)V"⟩, 10), (⟨"PeelRibbons$Clipping", "chooseAt", "(ILPeelRibbons$Leaves;)V"⟩, 10)]
theorem lw_r1 : ∀ q ∈ lw_privs_1, lw_okq q := List.forall_mem_cons.mpr ⟨lw_p0, List.forall_mem_cons.mpr ⟨lw_p1, List.forall_mem_cons.mpr ⟨lw_p2, List.forall_mem_cons.mpr ⟨lw_p3, List.forall_mem_cons.mpr ⟨lw_p4, List.forall_mem_cons.mpr ⟨lw_p5, List.forall_mem_cons.mpr ⟨lw_p6, List.forall_mem_cons.mpr ⟨lw_p7, List.forall_mem_cons.mpr ⟨lw_p8, List.forall_mem_cons.mpr ⟨lw_p9, List.forall_mem_cons.mpr ⟨lw_p10, List.forall_mem_cons.mpr ⟨lw_p11, List.forall_mem_cons.mpr ⟨lw_p12, List.forall_mem_cons.mpr ⟨lw_p13, List.forall_mem_cons.mpr ⟨lw_p14, List.forall_mem_cons.mpr ⟨lw_p15, fun _ h => absurd h List.not_mem_nil⟩⟩⟩⟩⟩⟩⟩⟩⟩⟩⟩⟩⟩⟩⟩⟩
theorem lw_p16 : lw_okq (⟨"PeelRibbons$Clipping", "tryLeaf", "(IIJ)V"⟩, 10) := ⟨⟨by decide +kernel, by decide +kernel⟩, List.mem_of_getElem? (i := 145) (by decide +kernel), List.mem_of_getElem? (i := 643) (by decide +kernel), List.mem_of_getElem? (i := 644) (by decide +kernel)⟩
theorem lw_p17 : lw_okq (⟨"PeelRibbons$Clipping", "listFromTheBegin", "(LPeelRibbons$Leaves;)V"⟩, 10) := ⟨⟨by decide +kernel, by decide +kernel⟩, List.mem_of_getElem? (i := 145) (by decide +kernel), List.mem_of_getElem? (i := 647) (by decide +kernel), List.mem_of_getElem? (i := 648) (by decide +kernel)⟩
theorem lw_p18 : lw_okq (⟨"PeelRibbonsModel", "know", "()V"⟩, 32) := ⟨⟨by decide +kernel, by decide +kernel⟩, List.mem_of_getElem? (i := 734) (by decide +kernel), List.mem_of_getElem? (i := 852) (by decide +kernel), List.mem_of_getElem? (i := 853) (by decide +kernel)⟩
theorem lw_p19 : lw_okq (⟨"PeelRibbonsModel", "square", "(III)I"⟩, 32) := ⟨⟨by decide +kernel, by decide +kernel⟩, List.mem_of_getElem? (i := 734) (by decide +kernel), List.mem_of_getElem? (i := 856) (by decide +kernel), List.mem_of_getElem? (i := 857) (by decide +kernel)⟩
theorem lw_p20 : lw_okq (⟨"PeelRibbonsModel", "roomAt", "(IIII)I"⟩, 32) := ⟨⟨by decide +kernel, by decide +kernel⟩, List.mem_of_getElem? (i := 734) (by decide +kernel), List.mem_of_getElem? (i := 866) (by decide +kernel), List.mem_of_getElem? (i := 867) (by decide +kernel)⟩
theorem lw_p21 : lw_okq (⟨"PeelRibbonsModel", "beforeTurn", "(I)I"⟩, 32) := ⟨⟨by decide +kernel, by decide +kernel⟩, List.mem_of_getElem? (i := 734) (by decide +kernel), List.mem_of_getElem? (i := 892) (by decide +kernel), List.mem_of_getElem? (i := 893) (by decide +kernel)⟩
theorem lw_p22 : lw_okq (⟨"PeelRibbonsModel", "placeOf", "(I)I"⟩, 32) := ⟨⟨by decide +kernel, by decide +kernel⟩, List.mem_of_getElem? (i := 734) (by decide +kernel), List.mem_of_getElem? (i := 904) (by decide +kernel), List.mem_of_getElem? (i := 905) (by decide +kernel)⟩
theorem lw_p23 : lw_okq (⟨"PeelRibbonsModel", "fits", "(II)Z"⟩, 32) := ⟨⟨by decide +kernel, by decide +kernel⟩, List.mem_of_getElem? (i := 734) (by decide +kernel), List.mem_of_getElem? (i := 920) (by decide +kernel), List.mem_of_getElem? (i := 921) (by decide +kernel)⟩
theorem lw_p24 : lw_okq (⟨"PeelRibbonsModel", "side", "(II)I"⟩, 32) := ⟨⟨by decide +kernel, by decide +kernel⟩, List.mem_of_getElem? (i := 734) (by decide +kernel), List.mem_of_getElem? (i := 924) (by decide +kernel), List.mem_of_getElem? (i := 925) (by decide +kernel)⟩
def lw_privs_2 : List (MethodName × Nat) := [(⟨"PeelRibbons$Clipping", "tryLeaf", "(IIJ)V"⟩, 10), (⟨"PeelRibbons$Clipping", "listFromTheBegin", "(LPeelRibbons$Leaves;)V"⟩, 10), (⟨"PeelRibbonsModel", "know", "()V"⟩, 32), (⟨"PeelRibbonsModel", "square", "(III)I"⟩, 32), (⟨"PeelRibbonsModel", "roomAt", "(IIII)I"⟩, 32), (⟨"PeelRibbonsModel", "beforeTurn", "(I)I"⟩, 32), (⟨"PeelRibbonsModel", "placeOf", "(I)I"⟩, 32), (⟨"PeelRibbonsModel", "fits", "(II)Z"⟩, 32), (⟨"PeelRibbonsModel", "side", "(II)I"⟩, 32)]
theorem lw_r2 : ∀ q ∈ lw_privs_2, lw_okq q := List.forall_mem_cons.mpr ⟨lw_p16, List.forall_mem_cons.mpr ⟨lw_p17, List.forall_mem_cons.mpr ⟨lw_p18, List.forall_mem_cons.mpr ⟨lw_p19, List.forall_mem_cons.mpr ⟨lw_p20, List.forall_mem_cons.mpr ⟨lw_p21, List.forall_mem_cons.mpr ⟨lw_p22, List.forall_mem_cons.mpr ⟨lw_p23, List.forall_mem_cons.mpr ⟨lw_p24, fun _ h => absurd h List.not_mem_nil⟩⟩⟩⟩⟩⟩⟩⟩⟩
def lw_privs : List (MethodName × Nat) := lw_privs_1 ++ (lw_privs_2)
def lw_tbl : List Cond := k2_sels lw_privs ++ tables_1
theorem lw_privs_ok : ∀ q ∈ lw_privs, lw_okq q := by
  show ∀ q ∈ lw_privs_1 ++ (lw_privs_2), lw_okq q
  exact List.forall_mem_append.mpr ⟨lw_r1, lw_r2⟩
end
section
def gG : List Cond := lw_tbl.filter goodWord
theorem gG_of {w : Cond} (h : w ∈ lw_tbl) (hg : goodWord w = true) : w ∈ gG := List.mem_filter.mpr ⟨h, hg⟩
theorem gG_in {cx w : Cond} (h : w ∈ gG) : w ∈ cx :: gG := List.mem_cons_of_mem _ h
theorem gG_good {cx cy : Cond} (h : cy ∈ gG) : GoodIn (cx :: gG) (cy :: gG) := fun w hw => by
  have h1 : w ∈ gG := (List.mem_cons.mp hw).elim (fun e => by rw [e]; exact h) id
  exact ⟨List.mem_cons_of_mem _ h1, good_of_word (List.mem_filter.mp h1).2⟩
def R_P : String := "PeelRibbons"
def T_P : u_T := fun k => match k with
  | 0 => ("PeelRibbons", "slices", "LPeelRibbons$Slices;", true)
  | 1 => ("PeelRibbons", "axes", "LPeelRibbons$Axes;", true)
  | 2 => ("PeelRibbons", "ribbon", "LPeelRibbons$Ribbon;", true)
  | 3 => ("PeelRibbons", "faults", "LPeelRibbons$Faults;", true)
  | 4 => ("PeelRibbons", "leaves", "LPeelRibbons$Leaves;", true)
  | 5 => ("PeelRibbons", "clipping", "LPeelRibbons$Clipping;", true)
  | _ => ("PeelRibbons", "knifeRows", "LPeelRibbons$KnifeRows;", true)
def ty_P : Nat → FieldType := fun k => match k with
  | 0 => .object "PeelRibbons$Slices"
  | 1 => .object "PeelRibbons$Axes"
  | 2 => .object "PeelRibbons$Ribbon"
  | 3 => .object "PeelRibbons$Faults"
  | 4 => .object "PeelRibbons$Leaves"
  | 5 => .object "PeelRibbons$Clipping"
  | _ => .object "PeelRibbons$KnifeRows"
theorem nm_P : ∀ a, a < 7 → ∀ b, b < 7 → a ≠ b → (T_P a).2.1 ≠ (T_P b).2.1 := by decide +kernel
theorem tk_P : ∀ k, k < 7 → parseFieldDescriptor (T_P k).2.2.1 = some (ty_P k) := by decide +kernel
theorem inG_P : ∀ w ∈ u_ws R_P T_P 7, w ∈ gG := by decide +kernel
def R_S : String := "PeelRibbons$Slices"
def T_S : u_T := fun k => match k with
  | 0 => ("PeelRibbons$Slices", "count", "I", true)
  | 1 => ("PeelRibbons$Slices", "side", "I", true)
  | 2 => ("PeelRibbons$Slices", "parts", "I", true)
  | 3 => ("PeelRibbons$Slices", "reach", "I", true)
  | 4 => ("PeelRibbons$Slices", "in", "[Z", true)
  | 5 => ("PeelRibbons$Slices", "nearest", "[I", true)
  | 6 => ("PeelRibbons$Slices", "isStale", "[Z", true)
  | _ => ("PeelRibbons$Slices", "nearestInColumn", "[I", true)
def ty_S : Nat → FieldType := fun k => match k with
  | 0 => .int
  | 1 => .int
  | 2 => .int
  | 3 => .int
  | 4 => .array .boolean
  | 5 => .array .int
  | 6 => .array .boolean
  | _ => .array .int
theorem nm_S : ∀ a, a < 8 → ∀ b, b < 8 → a ≠ b → (T_S a).2.1 ≠ (T_S b).2.1 := by decide +kernel
theorem tk_S : ∀ k, k < 8 → parseFieldDescriptor (T_S k).2.2.1 = some (ty_S k) := by decide +kernel
theorem inG_S : ∀ w ∈ u_ws R_S T_S 8, w ∈ gG := by decide +kernel
def R_A : String := "PeelRibbons$Axes"
def T_A : u_T := fun k => match k with
  | 0 => ("PeelRibbons$Axes", "slices", "LPeelRibbons$Slices;", true)
  | 1 => ("PeelRibbons$Axes", "numbers", "[I", true)
  | 2 => ("PeelRibbons$Axes", "room", "I", false)
  | _ => ("PeelRibbons$Axes", "isStale", "Z", false)
def ty_A : Nat → FieldType := fun k => match k with
  | 0 => .object "PeelRibbons$Slices"
  | 1 => .array .int
  | 2 => .int
  | _ => .boolean
theorem nm_A : ∀ a, a < 4 → ∀ b, b < 4 → a ≠ b → (T_A a).2.1 ≠ (T_A b).2.1 := by decide +kernel
theorem tk_A : ∀ k, k < 4 → parseFieldDescriptor (T_A k).2.2.1 = some (ty_A k) := by decide +kernel
theorem inG_A : ∀ w ∈ u_ws R_A T_A 4, w ∈ gG := by decide +kernel
def R_R : String := "PeelRibbons$Ribbon"
def T_R : u_T := fun k => match k with
  | 0 => ("PeelRibbons$Ribbon", "isPeeled", "Z", false)
  | 1 => ("PeelRibbons$Ribbon", "radius", "I", false)
  | 2 => ("PeelRibbons$Ribbon", "thick", "I", false)
  | _ => ("PeelRibbons$Ribbon", "turns", "I", false)
def ty_R : Nat → FieldType := fun k => match k with
  | 0 => .boolean
  | 1 => .int
  | 2 => .int
  | _ => .int
theorem nm_R : ∀ a, a < 4 → ∀ b, b < 4 → a ≠ b → (T_R a).2.1 ≠ (T_R b).2.1 := by decide +kernel
theorem tk_R : ∀ k, k < 4 → parseFieldDescriptor (T_R k).2.2.1 = some (ty_R k) := by decide +kernel
theorem inG_R : ∀ w ∈ u_ws R_R T_R 4, w ∈ gG := by decide +kernel
def R_F : String := "PeelRibbons$Faults"
def T_F : u_T := fun k => match k with
  | 0 => ("PeelRibbons$Faults", "angles", "[I", true)
  | 1 => ("PeelRibbons$Faults", "radii", "[I", true)
  | 2 => ("PeelRibbons$Faults", "kinds", "[I", true)
  | _ => ("PeelRibbons$Faults", "count", "I", false)
def ty_F : Nat → FieldType := fun k => match k with
  | 0 => .array .int
  | 1 => .array .int
  | 2 => .array .int
  | _ => .int
theorem nm_F : ∀ a, a < 4 → ∀ b, b < 4 → a ≠ b → (T_F a).2.1 ≠ (T_F b).2.1 := by decide +kernel
theorem tk_F : ∀ k, k < 4 → parseFieldDescriptor (T_F k).2.2.1 = some (ty_F k) := by decide +kernel
theorem inG_F : ∀ w ∈ u_ws R_F T_F 4, w ∈ gG := by decide +kernel
def R_L : String := "PeelRibbons$Leaves"
def T_L : u_T := fun k => match k with
  | 0 => ("PeelRibbons$Leaves", "widths", "[I", true)
  | 1 => ("PeelRibbons$Leaves", "worths", "[I", true)
  | 2 => ("PeelRibbons$Leaves", "barredBits", "[I", true)
  | _ => ("PeelRibbons$Leaves", "count", "I", false)
def ty_L : Nat → FieldType := fun k => match k with
  | 0 => .array .int
  | 1 => .array .int
  | 2 => .array .int
  | _ => .int
theorem nm_L : ∀ a, a < 4 → ∀ b, b < 4 → a ≠ b → (T_L a).2.1 ≠ (T_L b).2.1 := by decide +kernel
theorem tk_L : ∀ k, k < 4 → parseFieldDescriptor (T_L k).2.2.1 = some (ty_L k) := by decide +kernel
theorem inG_L : ∀ w ∈ u_ws R_L T_L 4, w ∈ gG := by decide +kernel
def R_C : String := "PeelRibbons$Clipping"
def T_C : u_T := fun k => match k with
  | 0 => ("PeelRibbons$Clipping", "kindBitsAt", "[I", true)
  | 1 => ("PeelRibbons$Clipping", "bestFrom", "[J", true)
  | 2 => ("PeelRibbons$Clipping", "choiceAt", "[I", true)
  | 3 => ("PeelRibbons$Clipping", "firstSteps", "[I", true)
  | 4 => ("PeelRibbons$Clipping", "clearUntil", "[I", true)
  | 5 => ("PeelRibbons$Clipping", "isDone", "Z", false)
  | 6 => ("PeelRibbons$Clipping", "steps", "I", false)
  | 7 => ("PeelRibbons$Clipping", "count", "I", false)
  | 8 => ("PeelRibbons$Clipping", "worth", "I", false)
  | _ => ("PeelRibbons$Clipping", "waste", "I", false)
def ty_C : Nat → FieldType := fun k => match k with
  | 0 => .array .int
  | 1 => .array .long
  | 2 => .array .int
  | 3 => .array .int
  | 4 => .array .int
  | 5 => .boolean
  | 6 => .int
  | 7 => .int
  | 8 => .int
  | _ => .int
theorem nm_C : ∀ a, a < 10 → ∀ b, b < 10 → a ≠ b → (T_C a).2.1 ≠ (T_C b).2.1 := by decide +kernel
theorem tk_C : ∀ k, k < 10 → parseFieldDescriptor (T_C k).2.2.1 = some (ty_C k) := by decide +kernel
theorem inG_C : ∀ w ∈ u_ws R_C T_C 10, w ∈ gG := by decide +kernel
def R_K : String := "PeelRibbons$KnifeRows"
def T_K : u_T := fun k => match k with
  | 0 => ("PeelRibbons$KnifeRows", "radii", "[I", true)
  | 1 => ("PeelRibbons$KnifeRows", "angles", "[I", true)
  | _ => ("PeelRibbons$KnifeRows", "count", "I", false)
def ty_K : Nat → FieldType := fun k => match k with
  | 0 => .array .int
  | 1 => .array .int
  | _ => .int
theorem nm_K : ∀ a, a < 3 → ∀ b, b < 3 → a ≠ b → (T_K a).2.1 ≠ (T_K b).2.1 := by decide +kernel
theorem tk_K : ∀ k, k < 3 → parseFieldDescriptor (T_K k).2.2.1 = some (ty_K k) := by decide +kernel
theorem inG_K : ∀ w ∈ u_ws R_K T_K 3, w ∈ gG := by decide +kernel
def R_M : String := "PeelRibbonsModel"
def T_M : u_T := fun k => match k with
  | 0 => ("PeelRibbonsModel", "thrown", "I", false)
  | 1 => ("PeelRibbonsModel", "slices", "I", false)
  | 2 => ("PeelRibbonsModel", "side", "I", false)
  | 3 => ("PeelRibbonsModel", "parts", "I", false)
  | 4 => ("PeelRibbonsModel", "in", "[Z", true)
  | 5 => ("PeelRibbonsModel", "squares", "[I", true)
  | 6 => ("PeelRibbonsModel", "known", "Z", false)
  | 7 => ("PeelRibbonsModel", "room", "I", false)
  | 8 => ("PeelRibbonsModel", "axis", "[I", true)
  | 9 => ("PeelRibbonsModel", "peeled", "Z", false)
  | 10 => ("PeelRibbonsModel", "thick", "I", false)
  | 11 => ("PeelRibbonsModel", "turns", "I", false)
  | 12 => ("PeelRibbonsModel", "radius", "I", false)
  | 13 => ("PeelRibbonsModel", "angles", "[I", true)
  | 14 => ("PeelRibbonsModel", "radii", "[I", true)
  | 15 => ("PeelRibbonsModel", "kinds", "[I", true)
  | 16 => ("PeelRibbonsModel", "faults", "I", false)
  | 17 => ("PeelRibbonsModel", "widths", "[I", true)
  | 18 => ("PeelRibbonsModel", "worths", "[I", true)
  | 19 => ("PeelRibbonsModel", "barred", "[I", true)
  | 20 => ("PeelRibbonsModel", "leaves", "I", false)
  | 21 => ("PeelRibbonsModel", "clipped", "Z", false)
  | 22 => ("PeelRibbonsModel", "steps", "I", false)
  | 23 => ("PeelRibbonsModel", "marks", "[I", true)
  | 24 => ("PeelRibbonsModel", "best", "[J", true)
  | 25 => ("PeelRibbonsModel", "waste", "[I", true)
  | 26 => ("PeelRibbonsModel", "chosen", "[I", true)
  | 27 => ("PeelRibbonsModel", "begins", "[I", true)
  | 28 => ("PeelRibbonsModel", "many", "I", false)
  | 29 => ("PeelRibbonsModel", "knifeRadii", "[I", true)
  | 30 => ("PeelRibbonsModel", "knifeAngles", "[I", true)
  | _ => ("PeelRibbonsModel", "rows", "I", false)
def ty_M : Nat → FieldType := fun k => match k with
  | 0 => .int
  | 1 => .int
  | 2 => .int
  | 3 => .int
  | 4 => .array .boolean
  | 5 => .array .int
  | 6 => .boolean
  | 7 => .int
  | 8 => .array .int
  | 9 => .boolean
  | 10 => .int
  | 11 => .int
  | 12 => .int
  | 13 => .array .int
  | 14 => .array .int
  | 15 => .array .int
  | 16 => .int
  | 17 => .array .int
  | 18 => .array .int
  | 19 => .array .int
  | 20 => .int
  | 21 => .boolean
  | 22 => .int
  | 23 => .array .int
  | 24 => .array .long
  | 25 => .array .int
  | 26 => .array .int
  | 27 => .array .int
  | 28 => .int
  | 29 => .array .int
  | 30 => .array .int
  | _ => .int
theorem nm_M : ∀ a, a < 32 → ∀ b, b < 32 → a ≠ b → (T_M a).2.1 ≠ (T_M b).2.1 := by decide +kernel
theorem tk_M : ∀ k, k < 32 → parseFieldDescriptor (T_M k).2.2.1 = some (ty_M k) := by decide +kernel
theorem inG_M : ∀ w ∈ u_ws R_M T_M 32, w ∈ gG := by decide +kernel
abbrev vwC : List vw_C := [(R_P, T_P, 7), (R_S, T_S, 8), (R_A, T_A, 4), (R_R, T_R, 4), (R_F, T_F, 4), (R_L, T_L, 4), (R_C, T_C, 10), (R_K, T_K, 3), (R_M, T_M, 32)]
def R_W : String := "PeelRibbonsLaw"
abbrev b_P_init : ByteArray := prog_1_method_1_code
def y_P_init : MethodName := ⟨R_P, "<init>", "(II)V"⟩
set_option maxRecDepth 20000 in
theorem k_P_init : Cond.code y_P_init b_P_init 3 none ∈ gG := gG_of (List.mem_of_getElem? (i := 46) rfl) rfl
abbrev ws_P_init : List Cond := .code y_P_init b_P_init 3 none :: gG
abbrev b_P_cell : ByteArray := prog_1_method_2_code
def y_P_cell : MethodName := ⟨R_P, "cell", "(IIIZ)Z"⟩
set_option maxRecDepth 20000 in
theorem k_P_cell : Cond.code y_P_cell b_P_cell 6 (some .boolean) ∈ gG := gG_of (List.mem_of_getElem? (i := 349) rfl) rfl
abbrev ws_P_cell : List Cond := .code y_P_cell b_P_cell 6 (some .boolean) :: gG
abbrev b_P_room : ByteArray := prog_1_method_3_code
def y_P_room : MethodName := ⟨R_P, "room", "()I"⟩
set_option maxRecDepth 20000 in
theorem k_P_room : Cond.code y_P_room b_P_room 1 (some .int) ∈ gG := gG_of (List.mem_of_getElem? (i := 248) rfl) rfl
abbrev ws_P_room : List Cond := .code y_P_room b_P_room 1 (some .int) :: gG
abbrev b_P_axis : ByteArray := prog_1_method_4_code
def y_P_axis : MethodName := ⟨R_P, "axis", "(I)I"⟩
set_option maxRecDepth 20000 in
theorem k_P_axis : Cond.code y_P_axis b_P_axis 2 (some .int) ∈ gG := gG_of (List.mem_of_getElem? (i := 441) rfl) rfl
abbrev ws_P_axis : List Cond := .code y_P_axis b_P_axis 2 (some .int) :: gG
abbrev b_P_radius : ByteArray := prog_1_method_5_code
def y_P_radius : MethodName := ⟨R_P, "radius", "()I"⟩
set_option maxRecDepth 20000 in
theorem k_P_radius : Cond.code y_P_radius b_P_radius 1 (some .int) ∈ gG := gG_of (List.mem_of_getElem? (i := 331) rfl) rfl
abbrev ws_P_radius : List Cond := .code y_P_radius b_P_radius 1 (some .int) :: gG
abbrev b_P_roomOf : ByteArray := prog_1_method_6_code
def y_P_roomOf : MethodName := ⟨R_P, "roomOf", "(IIII)I"⟩
set_option maxRecDepth 20000 in
theorem k_P_roomOf : Cond.code y_P_roomOf b_P_roomOf 5 (some .int) ∈ gG := gG_of (List.mem_of_getElem? (i := 454) rfl) rfl
abbrev ws_P_roomOf : List Cond := .code y_P_roomOf b_P_roomOf 5 (some .int) :: gG
abbrev b_P_peel : ByteArray := prog_1_method_7_code
def y_P_peel : MethodName := ⟨R_P, "peel", "(II)I"⟩
set_option maxRecDepth 20000 in
theorem k_P_peel : Cond.code y_P_peel b_P_peel 3 (some .int) ∈ gG := gG_of (List.mem_of_getElem? (i := 471) rfl) rfl
abbrev ws_P_peel : List Cond := .code y_P_peel b_P_peel 3 (some .int) :: gG
abbrev b_P_before : ByteArray := prog_1_method_8_code
def y_P_before : MethodName := ⟨R_P, "before", "(I)I"⟩
set_option maxRecDepth 20000 in
theorem k_P_before : Cond.code y_P_before b_P_before 2 (some .int) ∈ gG := gG_of (List.mem_of_getElem? (i := 504) rfl) rfl
abbrev ws_P_before : List Cond := .code y_P_before b_P_before 2 (some .int) :: gG
abbrev b_P_fault : ByteArray := prog_1_method_9_code
def y_P_fault : MethodName := ⟨R_P, "fault", "(III)I"⟩
set_option maxRecDepth 20000 in
theorem k_P_fault : Cond.code y_P_fault b_P_fault 4 (some .int) ∈ gG := gG_of (List.mem_of_getElem? (i := 539) rfl) rfl
abbrev ws_P_fault : List Cond := .code y_P_fault b_P_fault 4 (some .int) :: gG
abbrev b_P_unrolled : ByteArray := prog_1_method_10_code
def y_P_unrolled : MethodName := ⟨R_P, "unrolled", "(I)I"⟩
set_option maxRecDepth 20000 in
theorem k_P_unrolled : Cond.code y_P_unrolled b_P_unrolled 2 (some .int) ∈ gG := gG_of (List.mem_of_getElem? (i := 559) rfl) rfl
abbrev ws_P_unrolled : List Cond := .code y_P_unrolled b_P_unrolled 2 (some .int) :: gG
abbrev b_P_leaf : ByteArray := prog_1_method_11_code
def y_P_leaf : MethodName := ⟨R_P, "leaf", "(II)I"⟩
set_option maxRecDepth 20000 in
theorem k_P_leaf : Cond.code y_P_leaf b_P_leaf 3 (some .int) ∈ gG := gG_of (List.mem_of_getElem? (i := 581) rfl) rfl
abbrev ws_P_leaf : List Cond := .code y_P_leaf b_P_leaf 3 (some .int) :: gG
abbrev b_P_bars : ByteArray := prog_1_method_12_code
def y_P_bars : MethodName := ⟨R_P, "bars", "(IIZ)Z"⟩
set_option maxRecDepth 20000 in
theorem k_P_bars : Cond.code y_P_bars b_P_bars 5 (some .boolean) ∈ gG := gG_of (List.mem_of_getElem? (i := 599) rfl) rfl
abbrev ws_P_bars : List Cond := .code y_P_bars b_P_bars 5 (some .boolean) :: gG
abbrev b_P_clip : ByteArray := prog_1_method_13_code
def y_P_clip : MethodName := ⟨R_P, "clip", "(I)I"⟩
set_option maxRecDepth 20000 in
theorem k_P_clip : Cond.code y_P_clip b_P_clip 2 (some .int) ∈ gG := gG_of (List.mem_of_getElem? (i := 620) rfl) rfl
abbrev ws_P_clip : List Cond := .code y_P_clip b_P_clip 2 (some .int) :: gG
abbrev b_P_at : ByteArray := prog_1_method_14_code
def y_P_at : MethodName := ⟨R_P, "at", "(II)I"⟩
set_option maxRecDepth 20000 in
theorem k_P_at : Cond.code y_P_at b_P_at 3 (some .int) ∈ gG := gG_of (List.mem_of_getElem? (i := 685) rfl) rfl
abbrev ws_P_at : List Cond := .code y_P_at b_P_at 3 (some .int) :: gG
abbrev b_P_clipped : ByteArray := prog_1_method_15_code
def y_P_clipped : MethodName := ⟨R_P, "clipped", "(I)I"⟩
set_option maxRecDepth 20000 in
theorem k_P_clipped : Cond.code y_P_clipped b_P_clipped 2 (some .int) ∈ gG := gG_of (List.mem_of_getElem? (i := 706) rfl) rfl
abbrev ws_P_clipped : List Cond := .code y_P_clipped b_P_clipped 2 (some .int) :: gG
abbrev b_P_shrink : ByteArray := prog_1_method_16_code
def y_P_shrink : MethodName := ⟨R_P, "shrink", "(III)I"⟩
set_option maxRecDepth 20000 in
theorem k_P_shrink : Cond.code y_P_shrink b_P_shrink 4 (some .int) ∈ gG := gG_of (List.mem_of_getElem? (i := 726) rfl) rfl
abbrev ws_P_shrink : List Cond := .code y_P_shrink b_P_shrink 4 (some .int) :: gG
abbrev b_P_row : ByteArray := prog_1_method_17_code
def y_P_row : MethodName := ⟨R_P, "row", "(II)Z"⟩
set_option maxRecDepth 20000 in
theorem k_P_row : Cond.code y_P_row b_P_row 3 (some .boolean) ∈ gG := gG_of (List.mem_of_getElem? (i := 736) rfl) rfl
abbrev ws_P_row : List Cond := .code y_P_row b_P_row 3 (some .boolean) :: gG
abbrev b_P_knife : ByteArray := prog_1_method_18_code
def y_P_knife : MethodName := ⟨R_P, "knife", "(I)I"⟩
set_option maxRecDepth 20000 in
theorem k_P_knife : Cond.code y_P_knife b_P_knife 2 (some .int) ∈ gG := gG_of (List.mem_of_getElem? (i := 752) rfl) rfl
abbrev ws_P_knife : List Cond := .code y_P_knife b_P_knife 2 (some .int) :: gG
abbrev b_P_nearestOf : ByteArray := prog_1_method_19_code
def y_P_nearestOf : MethodName := ⟨R_P, "nearestOf", "(III)I"⟩
set_option maxRecDepth 20000 in
theorem k_P_nearestOf : Cond.code y_P_nearestOf b_P_nearestOf 3 (some .int) ∈ gG := gG_of (List.mem_of_getElem? (i := 54) rfl) rfl
abbrev ws_P_nearestOf : List Cond := .code y_P_nearestOf b_P_nearestOf 3 (some .int) :: gG
abbrev b_P_isWithin : ByteArray := prog_1_method_20_code
def y_P_isWithin : MethodName := ⟨R_P, "isWithin", "(III)Z"⟩
set_option maxRecDepth 20000 in
theorem k_P_isWithin : Cond.code y_P_isWithin b_P_isWithin 3 (some .boolean) ∈ gG := gG_of (List.mem_of_getElem? (i := 296) rfl) rfl
abbrev ws_P_isWithin : List Cond := .code y_P_isWithin b_P_isWithin 3 (some .boolean) :: gG
abbrev b_P_isKind : ByteArray := prog_1_method_21_code
def y_P_isKind : MethodName := ⟨R_P, "isKind", "(I)Z"⟩
set_option maxRecDepth 20000 in
theorem k_P_isKind : Cond.code y_P_isKind b_P_isKind 1 (some .boolean) ∈ gG := gG_of (List.mem_of_getElem? (i := 542) rfl) rfl
abbrev ws_P_isKind : List Cond := .code y_P_isKind b_P_isKind 1 (some .boolean) :: gG
abbrev b_S_init : ByteArray := prog_8_method_1_code
def y_S_init : MethodName := ⟨R_S, "<init>", "(II)V"⟩
set_option maxRecDepth 20000 in
theorem k_S_init : Cond.code y_S_init b_S_init 4 none ∈ gG := gG_of (List.mem_of_getElem? (i := 63) rfl) rfl
abbrev ws_S_init : List Cond := .code y_S_init b_S_init 4 none :: gG
abbrev b_S_count : ByteArray := prog_8_method_2_code
def y_S_count : MethodName := ⟨R_S, "count", "()I"⟩
set_option maxRecDepth 20000 in
theorem k_S_count : Cond.code y_S_count b_S_count 1 (some .int) ∈ gG := gG_of (List.mem_of_getElem? (i := 322) rfl) rfl
abbrev ws_S_count : List Cond := .code y_S_count b_S_count 1 (some .int) :: gG
abbrev b_S_side : ByteArray := prog_8_method_3_code
def y_S_side : MethodName := ⟨R_S, "side", "()I"⟩
set_option maxRecDepth 20000 in
theorem k_S_side : Cond.code y_S_side b_S_side 1 (some .int) ∈ gG := gG_of (List.mem_of_getElem? (i := 268) rfl) rfl
abbrev ws_S_side : List Cond := .code y_S_side b_S_side 1 (some .int) :: gG
abbrev b_S_parts : ByteArray := prog_8_method_4_code
def y_S_parts : MethodName := ⟨R_S, "parts", "()I"⟩
set_option maxRecDepth 20000 in
theorem k_S_parts : Cond.code y_S_parts b_S_parts 1 (some .int) ∈ gG := gG_of (List.mem_of_getElem? (i := 272) rfl) rfl
abbrev ws_S_parts : List Cond := .code y_S_parts b_S_parts 1 (some .int) :: gG
abbrev b_S_hasCell : ByteArray := prog_8_method_5_code
def y_S_hasCell : MethodName := ⟨R_S, "hasCell", "(III)Z"⟩
set_option maxRecDepth 20000 in
theorem k_S_hasCell : Cond.code y_S_hasCell b_S_hasCell 4 (some .boolean) ∈ gG := gG_of (List.mem_of_getElem? (i := 293) rfl) rfl
abbrev ws_S_hasCell : List Cond := .code y_S_hasCell b_S_hasCell 4 (some .boolean) :: gG
abbrev b_S_hasCorner : ByteArray := prog_8_method_6_code
def y_S_hasCorner : MethodName := ⟨R_S, "hasCorner", "(II)Z"⟩
set_option maxRecDepth 20000 in
theorem k_S_hasCorner : Cond.code y_S_hasCorner b_S_hasCorner 3 (some .boolean) ∈ gG := gG_of (List.mem_of_getElem? (i := 458) rfl) rfl
abbrev ws_S_hasCorner : List Cond := .code y_S_hasCorner b_S_hasCorner 3 (some .boolean) :: gG
abbrev b_S_tell : ByteArray := prog_8_method_7_code
def y_S_tell : MethodName := ⟨R_S, "tell", "(IIIZ)Z"⟩
set_option maxRecDepth 20000 in
theorem k_S_tell : Cond.code y_S_tell b_S_tell 7 (some .boolean) ∈ gG := gG_of (List.mem_of_getElem? (i := 422) rfl) rfl
abbrev ws_S_tell : List Cond := .code y_S_tell b_S_tell 7 (some .boolean) :: gG
abbrev b_S_nearestAt : ByteArray := prog_8_method_8_code
def y_S_nearestAt : MethodName := ⟨R_S, "nearestAt", "(III)I"⟩
set_option maxRecDepth 20000 in
theorem k_S_nearestAt : Cond.code y_S_nearestAt b_S_nearestAt 4 (some .int) ∈ gG := gG_of (List.mem_of_getElem? (i := 276) rfl) rfl
abbrev ws_S_nearestAt : List Cond := .code y_S_nearestAt b_S_nearestAt 4 (some .int) :: gG
abbrev b_S_measure : ByteArray := prog_8_method_9_code
def y_S_measure : MethodName := ⟨R_S, "measure", "(I)V"⟩
set_option maxRecDepth 20000 in
theorem k_S_measure : Cond.code y_S_measure b_S_measure 4 none ∈ gG := gG_of (List.mem_of_getElem? (i := 280) rfl) rfl
abbrev ws_S_measure : List Cond := .code y_S_measure b_S_measure 4 none :: gG
abbrev b_S_nearestInColumnOf : ByteArray := prog_8_method_10_code
def y_S_nearestInColumnOf : MethodName := ⟨R_S, "nearestInColumnOf", "(III)I"⟩
set_option maxRecDepth 20000 in
theorem k_S_nearestInColumnOf : Cond.code y_S_nearestInColumnOf b_S_nearestInColumnOf 7 (some .int) ∈ gG := gG_of (List.mem_of_getElem? (i := 284) rfl) rfl
abbrev ws_S_nearestInColumnOf : List Cond := .code y_S_nearestInColumnOf b_S_nearestInColumnOf 7 (some .int) :: gG
abbrev b_S_nearestOverColumns : ByteArray := prog_8_method_11_code
def y_S_nearestOverColumns : MethodName := ⟨R_S, "nearestOverColumns", "(I)I"⟩
set_option maxRecDepth 20000 in
theorem k_S_nearestOverColumns : Cond.code y_S_nearestOverColumns b_S_nearestOverColumns 5 (some .int) ∈ gG := gG_of (List.mem_of_getElem? (i := 309) rfl) rfl
abbrev ws_S_nearestOverColumns : List Cond := .code y_S_nearestOverColumns b_S_nearestOverColumns 5 (some .int) :: gG
abbrev b_S_isIn : ByteArray := prog_8_method_12_code
def y_S_isIn : MethodName := ⟨R_S, "isIn", "(III)Z"⟩
set_option maxRecDepth 20000 in
theorem k_S_isIn : Cond.code y_S_isIn b_S_isIn 4 (some .boolean) ∈ gG := gG_of (List.mem_of_getElem? (i := 289) rfl) rfl
abbrev ws_S_isIn : List Cond := .code y_S_isIn b_S_isIn 4 (some .boolean) :: gG
abbrev b_S_indexOf : ByteArray := prog_8_method_13_code
def y_S_indexOf : MethodName := ⟨R_S, "indexOf", "(III)I"⟩
set_option maxRecDepth 20000 in
theorem k_S_indexOf : Cond.code y_S_indexOf b_S_indexOf 4 (some .int) ∈ gG := gG_of (List.mem_of_getElem? (i := 300) rfl) rfl
abbrev ws_S_indexOf : List Cond := .code y_S_indexOf b_S_indexOf 4 (some .int) :: gG
abbrev b_S_gap : ByteArray := prog_8_method_14_code
def y_S_gap : MethodName := ⟨R_S, "gap", "(II)I"⟩
set_option maxRecDepth 20000 in
theorem k_S_gap : Cond.code y_S_gap b_S_gap 5 (some .int) ∈ gG := gG_of (List.mem_of_getElem? (i := 304) rfl) rfl
abbrev ws_S_gap : List Cond := .code y_S_gap b_S_gap 5 (some .int) :: gG
abbrev b_A_init : ByteArray := prog_2_method_1_code
def y_A_init : MethodName := ⟨R_A, "<init>", "(LPeelRibbons$Slices;)V"⟩
set_option maxRecDepth 20000 in
theorem k_A_init : Cond.code y_A_init b_A_init 2 none ∈ gG := gG_of (List.mem_of_getElem? (i := 97) rfl) rfl
abbrev ws_A_init : List Cond := .code y_A_init b_A_init 2 none :: gG
abbrev b_A_forget : ByteArray := prog_2_method_2_code
def y_A_forget : MethodName := ⟨R_A, "forget", "()V"⟩
set_option maxRecDepth 20000 in
theorem k_A_forget : Cond.code y_A_forget b_A_forget 1 none ∈ gG := gG_of (List.mem_of_getElem? (i := 426) rfl) rfl
abbrev ws_A_forget : List Cond := .code y_A_forget b_A_forget 1 none :: gG
abbrev b_A_number : ByteArray := prog_2_method_3_code
def y_A_number : MethodName := ⟨R_A, "number", "(I)I"⟩
set_option maxRecDepth 20000 in
theorem k_A_number : Cond.code y_A_number b_A_number 2 (some .int) ∈ gG := gG_of (List.mem_of_getElem? (i := 447) rfl) rfl
abbrev ws_A_number : List Cond := .code y_A_number b_A_number 2 (some .int) :: gG
abbrev b_A_greatestRoom : ByteArray := prog_2_method_4_code
def y_A_greatestRoom : MethodName := ⟨R_A, "greatestRoom", "()I"⟩
set_option maxRecDepth 20000 in
theorem k_A_greatestRoom : Cond.code y_A_greatestRoom b_A_greatestRoom 1 (some .int) ∈ gG := gG_of (List.mem_of_getElem? (i := 252) rfl) rfl
abbrev ws_A_greatestRoom : List Cond := .code y_A_greatestRoom b_A_greatestRoom 1 (some .int) :: gG
abbrev b_A_greatestRadius : ByteArray := prog_2_method_5_code
def y_A_greatestRadius : MethodName := ⟨R_A, "greatestRadius", "()I"⟩
set_option maxRecDepth 20000 in
theorem k_A_greatestRadius : Cond.code y_A_greatestRadius b_A_greatestRadius 1 (some .int) ∈ gG := gG_of (List.mem_of_getElem? (i := 335) rfl) rfl
abbrev ws_A_greatestRadius : List Cond := .code y_A_greatestRadius b_A_greatestRadius 1 (some .int) :: gG
abbrev b_A_exactRoom : ByteArray := prog_2_method_6_code
def y_A_exactRoom : MethodName := ⟨R_A, "exactRoom", "(IIII)I"⟩
set_option maxRecDepth 20000 in
theorem k_A_exactRoom : Cond.code y_A_exactRoom b_A_exactRoom 5 (some .int) ∈ gG := gG_of (List.mem_of_getElem? (i := 463) rfl) rfl
abbrev ws_A_exactRoom : List Cond := .code y_A_exactRoom b_A_exactRoom 5 (some .int) :: gG
abbrev b_A_roomAbove : ByteArray := prog_2_method_7_code
def y_A_roomAbove : MethodName := ⟨R_A, "roomAbove", "(IIIII)I"⟩
set_option maxRecDepth 20000 in
theorem k_A_roomAbove : Cond.code y_A_roomAbove b_A_roomAbove 10 (some .int) ∈ gG := gG_of (List.mem_of_getElem? (i := 317) rfl) rfl
abbrev ws_A_roomAbove : List Cond := .code y_A_roomAbove b_A_roomAbove 10 (some .int) :: gG
abbrev b_A_placeAt : ByteArray := prog_2_method_8_code
def y_A_placeAt : MethodName := ⟨R_A, "placeAt", "(III)I"⟩
set_option maxRecDepth 20000 in
theorem k_A_placeAt : Cond.code y_A_placeAt b_A_placeAt 4 (some .int) ∈ gG := gG_of (List.mem_of_getElem? (i := 326) rfl) rfl
abbrev ws_A_placeAt : List Cond := .code y_A_placeAt b_A_placeAt 4 (some .int) :: gG
abbrev b_A_seekIfStale : ByteArray := prog_2_method_9_code
def y_A_seekIfStale : MethodName := ⟨R_A, "seekIfStale", "()V"⟩
set_option maxRecDepth 20000 in
theorem k_A_seekIfStale : Cond.code y_A_seekIfStale b_A_seekIfStale 1 none ∈ gG := gG_of (List.mem_of_getElem? (i := 256) rfl) rfl
abbrev ws_A_seekIfStale : List Cond := .code y_A_seekIfStale b_A_seekIfStale 1 none :: gG
abbrev b_A_seek : ByteArray := prog_2_method_10_code
def y_A_seek : MethodName := ⟨R_A, "seek", "()V"⟩
set_option maxRecDepth 20000 in
theorem k_A_seek : Cond.code y_A_seek b_A_seek 3 none ∈ gG := gG_of (List.mem_of_getElem? (i := 260) rfl) rfl
abbrev ws_A_seek : List Cond := .code y_A_seek b_A_seek 3 none :: gG
abbrev b_A_seekFrom : ByteArray := prog_2_method_11_code
def y_A_seekFrom : MethodName := ⟨R_A, "seekFrom", "(II)V"⟩
set_option maxRecDepth 20000 in
theorem k_A_seekFrom : Cond.code y_A_seekFrom b_A_seekFrom 6 none ∈ gG := gG_of (List.mem_of_getElem? (i := 313) rfl) rfl
abbrev ws_A_seekFrom : List Cond := .code y_A_seekFrom b_A_seekFrom 6 none :: gG
abbrev b_A_keep : ByteArray := prog_2_method_12_code
def y_A_keep : MethodName := ⟨R_A, "keep", "(IIIII)V"⟩
set_option maxRecDepth 20000 in
theorem k_A_keep : Cond.code y_A_keep b_A_keep 6 none ∈ gG := gG_of (List.mem_of_getElem? (i := 264) rfl) rfl
abbrev ws_A_keep : List Cond := .code y_A_keep b_A_keep 6 none :: gG
abbrev b_A_rootOf : ByteArray := prog_2_method_13_code
def y_A_rootOf : MethodName := ⟨R_A, "rootOf", "(I)I"⟩
set_option maxRecDepth 20000 in
theorem k_A_rootOf : Cond.code y_A_rootOf b_A_rootOf 4 (some .int) ∈ gG := gG_of (List.mem_of_getElem? (i := 338) rfl) rfl
abbrev ws_A_rootOf : List Cond := .code y_A_rootOf b_A_rootOf 4 (some .int) :: gG
abbrev b_R_init : ByteArray := prog_7_method_1_code
def y_R_init : MethodName := ⟨R_R, "<init>", "()V"⟩
set_option maxRecDepth 20000 in
theorem k_R_init : Cond.code y_R_init b_R_init 1 none ∈ gG := gG_of (List.mem_of_getElem? (i := 116) rfl) rfl
abbrev ws_R_init : List Cond := .code y_R_init b_R_init 1 none :: gG
abbrev b_R_peelOff : ByteArray := prog_7_method_2_code
def y_R_peelOff : MethodName := ⟨R_R, "peelOff", "(III)V"⟩
set_option maxRecDepth 20000 in
theorem k_R_peelOff : Cond.code y_R_peelOff b_R_peelOff 4 none ∈ gG := gG_of (List.mem_of_getElem? (i := 491) rfl) rfl
abbrev ws_R_peelOff : List Cond := .code y_R_peelOff b_R_peelOff 4 none :: gG
abbrev b_R_forget : ByteArray := prog_7_method_3_code
def y_R_forget : MethodName := ⟨R_R, "forget", "()V"⟩
set_option maxRecDepth 20000 in
theorem k_R_forget : Cond.code y_R_forget b_R_forget 1 none ∈ gG := gG_of (List.mem_of_getElem? (i := 430) rfl) rfl
abbrev ws_R_forget : List Cond := .code y_R_forget b_R_forget 1 none :: gG
abbrev b_R_isPeeled : ByteArray := prog_7_method_4_code
def y_R_isPeeled : MethodName := ⟨R_R, "isPeeled", "()Z"⟩
set_option maxRecDepth 20000 in
theorem k_R_isPeeled : Cond.code y_R_isPeeled b_R_isPeeled 1 (some .boolean) ∈ gG := gG_of (List.mem_of_getElem? (i := 508) rfl) rfl
abbrev ws_R_isPeeled : List Cond := .code y_R_isPeeled b_R_isPeeled 1 (some .boolean) :: gG
abbrev b_R_turns : ByteArray := prog_7_method_5_code
def y_R_turns : MethodName := ⟨R_R, "turns", "()I"⟩
set_option maxRecDepth 20000 in
theorem k_R_turns : Cond.code y_R_turns b_R_turns 1 (some .int) ∈ gG := gG_of (List.mem_of_getElem? (i := 496) rfl) rfl
abbrev ws_R_turns : List Cond := .code y_R_turns b_R_turns 1 (some .int) :: gG
abbrev b_R_length : ByteArray := prog_7_method_6_code
def y_R_length : MethodName := ⟨R_R, "length", "()I"⟩
set_option maxRecDepth 20000 in
theorem k_R_length : Cond.code y_R_length b_R_length 1 (some .int) ∈ gG := gG_of (List.mem_of_getElem? (i := 630) rfl) rfl
abbrev ws_R_length : List Cond := .code y_R_length b_R_length 1 (some .int) :: gG
abbrev b_R_lengthBefore : ByteArray := prog_7_method_7_code
def y_R_lengthBefore : MethodName := ⟨R_R, "lengthBefore", "(I)I"⟩
set_option maxRecDepth 20000 in
theorem k_R_lengthBefore : Cond.code y_R_lengthBefore b_R_lengthBefore 3 (some .int) ∈ gG := gG_of (List.mem_of_getElem? (i := 529) rfl) rfl
abbrev ws_R_lengthBefore : List Cond := .code y_R_lengthBefore b_R_lengthBefore 3 (some .int) :: gG
abbrev b_R_placeOf : ByteArray := prog_7_method_8_code
def y_R_placeOf : MethodName := ⟨R_R, "placeOf", "(II)I"⟩
set_option maxRecDepth 20000 in
theorem k_R_placeOf : Cond.code y_R_placeOf b_R_placeOf 4 (some .int) ∈ gG := gG_of (List.mem_of_getElem? (i := 573) rfl) rfl
abbrev ws_R_placeOf : List Cond := .code y_R_placeOf b_R_placeOf 4 (some .int) :: gG
abbrev b_R_roundOf : ByteArray := prog_7_method_9_code
def y_R_roundOf : MethodName := ⟨R_R, "roundOf", "(I)I"⟩
set_option maxRecDepth 20000 in
theorem k_R_roundOf : Cond.code y_R_roundOf b_R_roundOf 1 (some .int) ∈ gG := gG_of (List.mem_of_getElem? (i := 532) rfl) rfl
abbrev ws_R_roundOf : List Cond := .code y_R_roundOf b_R_roundOf 1 (some .int) :: gG
abbrev b_F_init : ByteArray := prog_4_method_1_code
def y_F_init : MethodName := ⟨R_F, "<init>", "()V"⟩
set_option maxRecDepth 20000 in
theorem k_F_init : Cond.code y_F_init b_F_init 1 none ∈ gG := gG_of (List.mem_of_getElem? (i := 135) rfl) rfl
abbrev ws_F_init : List Cond := .code y_F_init b_F_init 1 none :: gG
abbrev b_F_isFull : ByteArray := prog_4_method_2_code
def y_F_isFull : MethodName := ⟨R_F, "isFull", "()Z"⟩
set_option maxRecDepth 20000 in
theorem k_F_isFull : Cond.code y_F_isFull b_F_isFull 1 (some .boolean) ∈ gG := gG_of (List.mem_of_getElem? (i := 547) rfl) rfl
abbrev ws_F_isFull : List Cond := .code y_F_isFull b_F_isFull 1 (some .boolean) :: gG
abbrev b_F_has : ByteArray := prog_4_method_3_code
def y_F_has : MethodName := ⟨R_F, "has", "(I)Z"⟩
set_option maxRecDepth 20000 in
theorem k_F_has : Cond.code y_F_has b_F_has 2 (some .boolean) ∈ gG := gG_of (List.mem_of_getElem? (i := 563) rfl) rfl
abbrev ws_F_has : List Cond := .code y_F_has b_F_has 2 (some .boolean) :: gG
abbrev b_F_count : ByteArray := prog_4_method_4_code
def y_F_count : MethodName := ⟨R_F, "count", "()I"⟩
set_option maxRecDepth 20000 in
theorem k_F_count : Cond.code y_F_count b_F_count 1 (some .int) ∈ gG := gG_of (List.mem_of_getElem? (i := 639) rfl) rfl
abbrev ws_F_count : List Cond := .code y_F_count b_F_count 1 (some .int) :: gG
abbrev b_F_add : ByteArray := prog_4_method_5_code
def y_F_add : MethodName := ⟨R_F, "add", "(III)I"⟩
set_option maxRecDepth 20000 in
theorem k_F_add : Cond.code y_F_add b_F_add 4 (some .int) ∈ gG := gG_of (List.mem_of_getElem? (i := 552) rfl) rfl
abbrev ws_F_add : List Cond := .code y_F_add b_F_add 4 (some .int) :: gG
abbrev b_F_kindBit : ByteArray := prog_4_method_6_code
def y_F_kindBit : MethodName := ⟨R_F, "kindBit", "(I)I"⟩
set_option maxRecDepth 20000 in
theorem k_F_kindBit : Cond.code y_F_kindBit b_F_kindBit 2 (some .int) ∈ gG := gG_of (List.mem_of_getElem? (i := 644) rfl) rfl
abbrev ws_F_kindBit : List Cond := .code y_F_kindBit b_F_kindBit 2 (some .int) :: gG
abbrev b_F_placeIn : ByteArray := prog_4_method_7_code
def y_F_placeIn : MethodName := ⟨R_F, "placeIn", "(LPeelRibbons$Ribbon;I)I"⟩
set_option maxRecDepth 20000 in
theorem k_F_placeIn : Cond.code y_F_placeIn b_F_placeIn 3 (some .int) ∈ gG := gG_of (List.mem_of_getElem? (i := 569) rfl) rfl
abbrev ws_F_placeIn : List Cond := .code y_F_placeIn b_F_placeIn 3 (some .int) :: gG
abbrev b_L_init : ByteArray := prog_6_method_1_code
def y_L_init : MethodName := ⟨R_L, "<init>", "()V"⟩
set_option maxRecDepth 20000 in
theorem k_L_init : Cond.code y_L_init b_L_init 1 none ∈ gG := gG_of (List.mem_of_getElem? (i := 154) rfl) rfl
abbrev ws_L_init : List Cond := .code y_L_init b_L_init 1 none :: gG
abbrev b_L_isFull : ByteArray := prog_6_method_2_code
def y_L_isFull : MethodName := ⟨R_L, "isFull", "()Z"⟩
set_option maxRecDepth 20000 in
theorem k_L_isFull : Cond.code y_L_isFull b_L_isFull 1 (some .boolean) ∈ gG := gG_of (List.mem_of_getElem? (i := 587) rfl) rfl
abbrev ws_L_isFull : List Cond := .code y_L_isFull b_L_isFull 1 (some .boolean) :: gG
abbrev b_L_has : ByteArray := prog_6_method_3_code
def y_L_has : MethodName := ⟨R_L, "has", "(I)Z"⟩
set_option maxRecDepth 20000 in
theorem k_L_has : Cond.code y_L_has b_L_has 2 (some .boolean) ∈ gG := gG_of (List.mem_of_getElem? (i := 603) rfl) rfl
abbrev ws_L_has : List Cond := .code y_L_has b_L_has 2 (some .boolean) :: gG
abbrev b_L_count : ByteArray := prog_6_method_4_code
def y_L_count : MethodName := ⟨R_L, "count", "()I"⟩
set_option maxRecDepth 20000 in
theorem k_L_count : Cond.code y_L_count b_L_count 1 (some .int) ∈ gG := gG_of (List.mem_of_getElem? (i := 652) rfl) rfl
abbrev ws_L_count : List Cond := .code y_L_count b_L_count 1 (some .int) :: gG
abbrev b_L_add : ByteArray := prog_6_method_5_code
def y_L_add : MethodName := ⟨R_L, "add", "(II)I"⟩
set_option maxRecDepth 20000 in
theorem k_L_add : Cond.code y_L_add b_L_add 3 (some .int) ∈ gG := gG_of (List.mem_of_getElem? (i := 592) rfl) rfl
abbrev ws_L_add : List Cond := .code y_L_add b_L_add 3 (some .int) :: gG
abbrev b_L_tellBar : ByteArray := prog_6_method_6_code
def y_L_tellBar : MethodName := ⟨R_L, "tellBar", "(IIZ)Z"⟩
set_option maxRecDepth 20000 in
theorem k_L_tellBar : Cond.code y_L_tellBar b_L_tellBar 5 (some .boolean) ∈ gG := gG_of (List.mem_of_getElem? (i := 609) rfl) rfl
abbrev ws_L_tellBar : List Cond := .code y_L_tellBar b_L_tellBar 5 (some .boolean) :: gG
abbrev b_L_barsAny : ByteArray := prog_6_method_7_code
def y_L_barsAny : MethodName := ⟨R_L, "barsAny", "(II)Z"⟩
set_option maxRecDepth 20000 in
theorem k_L_barsAny : Cond.code y_L_barsAny b_L_barsAny 3 (some .boolean) ∈ gG := gG_of (List.mem_of_getElem? (i := 613) rfl) rfl
abbrev ws_L_barsAny : List Cond := .code y_L_barsAny b_L_barsAny 3 (some .boolean) :: gG
abbrev b_L_width : ByteArray := prog_6_method_8_code
def y_L_width : MethodName := ⟨R_L, "width", "(I)I"⟩
set_option maxRecDepth 20000 in
theorem k_L_width : Cond.code y_L_width b_L_width 2 (some .int) ∈ gG := gG_of (List.mem_of_getElem? (i := 661) rfl) rfl
abbrev ws_L_width : List Cond := .code y_L_width b_L_width 2 (some .int) :: gG
abbrev b_L_worth : ByteArray := prog_6_method_9_code
def y_L_worth : MethodName := ⟨R_L, "worth", "(I)I"⟩
set_option maxRecDepth 20000 in
theorem k_L_worth : Cond.code y_L_worth b_L_worth 2 (some .int) ∈ gG := gG_of (List.mem_of_getElem? (i := 665) rfl) rfl
abbrev ws_L_worth : List Cond := .code y_L_worth b_L_worth 2 (some .int) :: gG
abbrev b_C_init : ByteArray := prog_3_method_1_code
def y_C_init : MethodName := ⟨R_C, "<init>", "()V"⟩
set_option maxRecDepth 20000 in
theorem k_C_init : Cond.code y_C_init b_C_init 1 none ∈ gG := gG_of (List.mem_of_getElem? (i := 173) rfl) rfl
abbrev ws_C_init : List Cond := .code y_C_init b_C_init 1 none :: gG
abbrev b_C_forget : ByteArray := prog_3_method_2_code
def y_C_forget : MethodName := ⟨R_C, "forget", "()V"⟩
set_option maxRecDepth 20000 in
theorem k_C_forget : Cond.code y_C_forget b_C_forget 1 none ∈ gG := gG_of (List.mem_of_getElem? (i := 434) rfl) rfl
abbrev ws_C_forget : List Cond := .code y_C_forget b_C_forget 1 none :: gG
abbrev b_C_isDone : ByteArray := prog_3_method_3_code
def y_C_isDone : MethodName := ⟨R_C, "isDone", "()Z"⟩
set_option maxRecDepth 20000 in
theorem k_C_isDone : Cond.code y_C_isDone b_C_isDone 1 (some .boolean) ∈ gG := gG_of (List.mem_of_getElem? (i := 689) rfl) rfl
abbrev ws_C_isDone : List Cond := .code y_C_isDone b_C_isDone 1 (some .boolean) :: gG
abbrev b_C_count : ByteArray := prog_3_method_4_code
def y_C_count : MethodName := ⟨R_C, "count", "()I"⟩
set_option maxRecDepth 20000 in
theorem k_C_count : Cond.code y_C_count b_C_count 1 (some .int) ∈ gG := gG_of (List.mem_of_getElem? (i := 678) rfl) rfl
abbrev ws_C_count : List Cond := .code y_C_count b_C_count 1 (some .int) :: gG
abbrev b_C_worth : ByteArray := prog_3_method_5_code
def y_C_worth : MethodName := ⟨R_C, "worth", "()I"⟩
set_option maxRecDepth 20000 in
theorem k_C_worth : Cond.code y_C_worth b_C_worth 1 (some .int) ∈ gG := gG_of (List.mem_of_getElem? (i := 711) rfl) rfl
abbrev ws_C_worth : List Cond := .code y_C_worth b_C_worth 1 (some .int) :: gG
abbrev b_C_waste : ByteArray := prog_3_method_6_code
def y_C_waste : MethodName := ⟨R_C, "waste", "()I"⟩
set_option maxRecDepth 20000 in
theorem k_C_waste : Cond.code y_C_waste b_C_waste 1 (some .int) ∈ gG := gG_of (List.mem_of_getElem? (i := 715) rfl) rfl
abbrev ws_C_waste : List Cond := .code y_C_waste b_C_waste 1 (some .int) :: gG
abbrev b_C_steps : ByteArray := prog_3_method_7_code
def y_C_steps : MethodName := ⟨R_C, "steps", "()I"⟩
set_option maxRecDepth 20000 in
theorem k_C_steps : Cond.code y_C_steps b_C_steps 1 (some .int) ∈ gG := gG_of (List.mem_of_getElem? (i := 719) rfl) rfl
abbrev ws_C_steps : List Cond := .code y_C_steps b_C_steps 1 (some .int) :: gG
abbrev b_C_leafOf : ByteArray := prog_3_method_8_code
def y_C_leafOf : MethodName := ⟨R_C, "leafOf", "(I)I"⟩
set_option maxRecDepth 20000 in
theorem k_C_leafOf : Cond.code y_C_leafOf b_C_leafOf 2 (some .int) ∈ gG := gG_of (List.mem_of_getElem? (i := 695) rfl) rfl
abbrev ws_C_leafOf : List Cond := .code y_C_leafOf b_C_leafOf 2 (some .int) :: gG
abbrev b_C_firstStepOf : ByteArray := prog_3_method_9_code
def y_C_firstStepOf : MethodName := ⟨R_C, "firstStepOf", "(I)I"⟩
set_option maxRecDepth 20000 in
theorem k_C_firstStepOf : Cond.code y_C_firstStepOf b_C_firstStepOf 2 (some .int) ∈ gG := gG_of (List.mem_of_getElem? (i := 699) rfl) rfl
abbrev ws_C_firstStepOf : List Cond := .code y_C_firstStepOf b_C_firstStepOf 2 (some .int) :: gG
abbrev b_C_cut : ByteArray := prog_3_method_10_code
def y_C_cut : MethodName := ⟨R_C, "cut", "(LPeelRibbons$Ribbon;LPeelRibbons$Faults;LPeelRibbons$Leaves;I)V"⟩
set_option maxRecDepth 20000 in
theorem k_C_cut : Cond.code y_C_cut b_C_cut 6 none ∈ gG := gG_of (List.mem_of_getElem? (i := 625) rfl) rfl
abbrev ws_C_cut : List Cond := .code y_C_cut b_C_cut 6 none :: gG
abbrev b_C_markFaults : ByteArray := prog_3_method_11_code
def y_C_markFaults : MethodName := ⟨R_C, "markFaults", "(LPeelRibbons$Ribbon;LPeelRibbons$Faults;I)V"⟩
set_option maxRecDepth 20000 in
theorem k_C_markFaults : Cond.code y_C_markFaults b_C_markFaults 6 none ∈ gG := gG_of (List.mem_of_getElem? (i := 635) rfl) rfl
abbrev ws_C_markFaults : List Cond := .code y_C_markFaults b_C_markFaults 6 none :: gG
abbrev b_C_chooseFromTheEnd : ByteArray := prog_3_method_12_code
def y_C_chooseFromTheEnd : MethodName := ⟨R_C, "chooseFromTheEnd", "(LPeelRibbons$Leaves;)V"⟩
set_option maxRecDepth 20000 in
theorem k_C_chooseFromTheEnd : Cond.code y_C_chooseFromTheEnd b_C_chooseFromTheEnd 3 none ∈ gG := gG_of (List.mem_of_getElem? (i := 648) rfl) rfl
abbrev ws_C_chooseFromTheEnd : List Cond := .code y_C_chooseFromTheEnd b_C_chooseFromTheEnd 3 none :: gG
abbrev b_C_chooseAt : ByteArray := prog_3_method_13_code
def y_C_chooseAt : MethodName := ⟨R_C, "chooseAt", "(ILPeelRibbons$Leaves;)V"⟩
set_option maxRecDepth 20000 in
theorem k_C_chooseAt : Cond.code y_C_chooseAt b_C_chooseAt 5 none ∈ gG := gG_of (List.mem_of_getElem? (i := 656) rfl) rfl
abbrev ws_C_chooseAt : List Cond := .code y_C_chooseAt b_C_chooseAt 5 none :: gG
abbrev b_C_tryLeaf : ByteArray := prog_3_method_14_code
def y_C_tryLeaf : MethodName := ⟨R_C, "tryLeaf", "(IIJ)V"⟩
set_option maxRecDepth 20000 in
theorem k_C_tryLeaf : Cond.code y_C_tryLeaf b_C_tryLeaf 5 none ∈ gG := gG_of (List.mem_of_getElem? (i := 670) rfl) rfl
abbrev ws_C_tryLeaf : List Cond := .code y_C_tryLeaf b_C_tryLeaf 5 none :: gG
abbrev b_C_listFromTheBegin : ByteArray := prog_3_method_15_code
def y_C_listFromTheBegin : MethodName := ⟨R_C, "listFromTheBegin", "(LPeelRibbons$Leaves;)V"⟩
set_option maxRecDepth 20000 in
theorem k_C_listFromTheBegin : Cond.code y_C_listFromTheBegin b_C_listFromTheBegin 5 none ∈ gG := gG_of (List.mem_of_getElem? (i := 674) rfl) rfl
abbrev ws_C_listFromTheBegin : List Cond := .code y_C_listFromTheBegin b_C_listFromTheBegin 5 none :: gG
abbrev b_K_init : ByteArray := prog_5_method_1_code
def y_K_init : MethodName := ⟨R_K, "<init>", "()V"⟩
set_option maxRecDepth 20000 in
theorem k_K_init : Cond.code y_K_init b_K_init 1 none ∈ gG := gG_of (List.mem_of_getElem? (i := 211) rfl) rfl
abbrev ws_K_init : List Cond := .code y_K_init b_K_init 1 none :: gG
abbrev b_K_isBelowLast : ByteArray := prog_5_method_2_code
def y_K_isBelowLast : MethodName := ⟨R_K, "isBelowLast", "(I)Z"⟩
set_option maxRecDepth 20000 in
theorem k_K_isBelowLast : Cond.code y_K_isBelowLast b_K_isBelowLast 2 (some .boolean) ∈ gG := gG_of (List.mem_of_getElem? (i := 740) rfl) rfl
abbrev ws_K_isBelowLast : List Cond := .code y_K_isBelowLast b_K_isBelowLast 2 (some .boolean) :: gG
abbrev b_K_add : ByteArray := prog_5_method_3_code
def y_K_add : MethodName := ⟨R_K, "add", "(II)Z"⟩
set_option maxRecDepth 20000 in
theorem k_K_add : Cond.code y_K_add b_K_add 3 (some .boolean) ∈ gG := gG_of (List.mem_of_getElem? (i := 745) rfl) rfl
abbrev ws_K_add : List Cond := .code y_K_add b_K_add 3 (some .boolean) :: gG
abbrev b_K_answerAt : ByteArray := prog_5_method_4_code
def y_K_answerAt : MethodName := ⟨R_K, "answerAt", "(I)I"⟩
set_option maxRecDepth 20000 in
theorem k_K_answerAt : Cond.code y_K_answerAt b_K_answerAt 3 (some .int) ∈ gG := gG_of (List.mem_of_getElem? (i := 757) rfl) rfl
abbrev ws_K_answerAt : List Cond := .code y_K_answerAt b_K_answerAt 3 (some .int) :: gG
abbrev b_M_init : ByteArray := prog_10_method_1_code
def y_M_init : MethodName := ⟨R_M, "<init>", "(II)V"⟩
set_option maxRecDepth 20000 in
theorem k_M_init : Cond.code y_M_init b_M_init 3 none ∈ gG := gG_of (List.mem_of_getElem? (i := 762) rfl) rfl
abbrev ws_M_init : List Cond := .code y_M_init b_M_init 3 none :: gG
abbrev b_M_thrown : ByteArray := prog_10_method_2_code
def y_M_thrown : MethodName := ⟨R_M, "thrown", "()I"⟩
set_option maxRecDepth 20000 in
theorem k_M_thrown : Cond.code y_M_thrown b_M_thrown 1 (some .int) ∈ gG := gG_of (List.mem_of_getElem? (i := 864) rfl) rfl
abbrev ws_M_thrown : List Cond := .code y_M_thrown b_M_thrown 1 (some .int) :: gG
abbrev b_M_isIn : ByteArray := prog_10_method_3_code
def y_M_isIn : MethodName := ⟨R_M, "isIn", "(III)Z"⟩
set_option maxRecDepth 20000 in
theorem k_M_isIn : Cond.code y_M_isIn b_M_isIn 3 (some .boolean) ∈ gG := gG_of (List.mem_of_getElem? (i := 871) rfl) rfl
abbrev ws_M_isIn : List Cond := .code y_M_isIn b_M_isIn 3 (some .boolean) :: gG
abbrev b_M_cell : ByteArray := prog_10_method_4_code
def y_M_cell : MethodName := ⟨R_M, "cell", "(IIIZ)Z"⟩
set_option maxRecDepth 20000 in
theorem k_M_cell : Cond.code y_M_cell b_M_cell 7 (some .boolean) ∈ gG := gG_of (List.mem_of_getElem? (i := 868) rfl) rfl
abbrev ws_M_cell : List Cond := .code y_M_cell b_M_cell 7 (some .boolean) :: gG
abbrev b_M_less : ByteArray := prog_10_method_5_code
def y_M_less : MethodName := ⟨R_M, "less", "(II)I"⟩
set_option maxRecDepth 20000 in
theorem k_M_less : Cond.code y_M_less b_M_less 2 (some .int) ∈ gG := gG_of (List.mem_of_getElem? (i := 886) rfl) rfl
abbrev ws_M_less : List Cond := .code y_M_less b_M_less 2 (some .int) :: gG
abbrev b_M_off : ByteArray := prog_10_method_6_code
def y_M_off : MethodName := ⟨R_M, "off", "(III)I"⟩
set_option maxRecDepth 20000 in
theorem k_M_off : Cond.code y_M_off b_M_off 3 (some .int) ∈ gG := gG_of (List.mem_of_getElem? (i := 889) rfl) rfl
abbrev ws_M_off : List Cond := .code y_M_off b_M_off 3 (some .int) :: gG
abbrev b_M_square : ByteArray := prog_10_method_7_code
def y_M_square : MethodName := ⟨R_M, "square", "(III)I"⟩
set_option maxRecDepth 20000 in
theorem k_M_square : Cond.code y_M_square b_M_square 11 (some .int) ∈ gG := gG_of (List.mem_of_getElem? (i := 883) rfl) rfl
abbrev ws_M_square : List Cond := .code y_M_square b_M_square 11 (some .int) :: gG
abbrev b_M_roomAt : ByteArray := prog_10_method_8_code
def y_M_roomAt : MethodName := ⟨R_M, "roomAt", "(IIII)I"⟩
set_option maxRecDepth 20000 in
theorem k_M_roomAt : Cond.code y_M_roomAt b_M_roomAt 9 (some .int) ∈ gG := gG_of (List.mem_of_getElem? (i := 893) rfl) rfl
abbrev ws_M_roomAt : List Cond := .code y_M_roomAt b_M_roomAt 9 (some .int) :: gG
abbrev b_M_know : ByteArray := prog_10_method_9_code
def y_M_know : MethodName := ⟨R_M, "know", "()V"⟩
set_option maxRecDepth 20000 in
theorem k_M_know : Cond.code y_M_know b_M_know 8 none ∈ gG := gG_of (List.mem_of_getElem? (i := 879) rfl) rfl
abbrev ws_M_know : List Cond := .code y_M_know b_M_know 8 none :: gG
abbrev b_M_room : ByteArray := prog_10_method_10_code
def y_M_room : MethodName := ⟨R_M, "room", "()I"⟩
set_option maxRecDepth 20000 in
theorem k_M_room : Cond.code y_M_room b_M_room 1 (some .int) ∈ gG := gG_of (List.mem_of_getElem? (i := 875) rfl) rfl
abbrev ws_M_room : List Cond := .code y_M_room b_M_room 1 (some .int) :: gG
abbrev b_M_axis : ByteArray := prog_10_method_11_code
def y_M_axis : MethodName := ⟨R_M, "axis", "(I)I"⟩
set_option maxRecDepth 20000 in
theorem k_M_axis : Cond.code y_M_axis b_M_axis 2 (some .int) ∈ gG := gG_of (List.mem_of_getElem? (i := 898) rfl) rfl
abbrev ws_M_axis : List Cond := .code y_M_axis b_M_axis 2 (some .int) :: gG
abbrev b_M_radius : ByteArray := prog_10_method_12_code
def y_M_radius : MethodName := ⟨R_M, "radius", "()I"⟩
set_option maxRecDepth 20000 in
theorem k_M_radius : Cond.code y_M_radius b_M_radius 2 (some .int) ∈ gG := gG_of (List.mem_of_getElem? (i := 902) rfl) rfl
abbrev ws_M_radius : List Cond := .code y_M_radius b_M_radius 2 (some .int) :: gG
abbrev b_M_roomOf : ByteArray := prog_10_method_13_code
def y_M_roomOf : MethodName := ⟨R_M, "roomOf", "(IIII)I"⟩
set_option maxRecDepth 20000 in
theorem k_M_roomOf : Cond.code y_M_roomOf b_M_roomOf 5 (some .int) ∈ gG := gG_of (List.mem_of_getElem? (i := 906) rfl) rfl
abbrev ws_M_roomOf : List Cond := .code y_M_roomOf b_M_roomOf 5 (some .int) :: gG
abbrev b_M_peel : ByteArray := prog_10_method_14_code
def y_M_peel : MethodName := ⟨R_M, "peel", "(II)I"⟩
set_option maxRecDepth 20000 in
theorem k_M_peel : Cond.code y_M_peel b_M_peel 3 (some .int) ∈ gG := gG_of (List.mem_of_getElem? (i := 910) rfl) rfl
abbrev ws_M_peel : List Cond := .code y_M_peel b_M_peel 3 (some .int) :: gG
abbrev b_M_beforeTurn : ByteArray := prog_10_method_15_code
def y_M_beforeTurn : MethodName := ⟨R_M, "beforeTurn", "(I)I"⟩
set_option maxRecDepth 20000 in
theorem k_M_beforeTurn : Cond.code y_M_beforeTurn b_M_beforeTurn 4 (some .int) ∈ gG := gG_of (List.mem_of_getElem? (i := 919) rfl) rfl
abbrev ws_M_beforeTurn : List Cond := .code y_M_beforeTurn b_M_beforeTurn 4 (some .int) :: gG
abbrev b_M_before : ByteArray := prog_10_method_16_code
def y_M_before : MethodName := ⟨R_M, "before", "(I)I"⟩
set_option maxRecDepth 20000 in
theorem k_M_before : Cond.code y_M_before b_M_before 2 (some .int) ∈ gG := gG_of (List.mem_of_getElem? (i := 915) rfl) rfl
abbrev ws_M_before : List Cond := .code y_M_before b_M_before 2 (some .int) :: gG
abbrev b_M_fault : ByteArray := prog_10_method_17_code
def y_M_fault : MethodName := ⟨R_M, "fault", "(III)I"⟩
set_option maxRecDepth 20000 in
theorem k_M_fault : Cond.code y_M_fault b_M_fault 4 (some .int) ∈ gG := gG_of (List.mem_of_getElem? (i := 923) rfl) rfl
abbrev ws_M_fault : List Cond := .code y_M_fault b_M_fault 4 (some .int) :: gG
abbrev b_M_placeOf : ByteArray := prog_10_method_18_code
def y_M_placeOf : MethodName := ⟨R_M, "placeOf", "(I)I"⟩
set_option maxRecDepth 20000 in
theorem k_M_placeOf : Cond.code y_M_placeOf b_M_placeOf 3 (some .int) ∈ gG := gG_of (List.mem_of_getElem? (i := 931) rfl) rfl
abbrev ws_M_placeOf : List Cond := .code y_M_placeOf b_M_placeOf 3 (some .int) :: gG
abbrev b_M_unrolled : ByteArray := prog_10_method_19_code
def y_M_unrolled : MethodName := ⟨R_M, "unrolled", "(I)I"⟩
set_option maxRecDepth 20000 in
theorem k_M_unrolled : Cond.code y_M_unrolled b_M_unrolled 2 (some .int) ∈ gG := gG_of (List.mem_of_getElem? (i := 927) rfl) rfl
abbrev ws_M_unrolled : List Cond := .code y_M_unrolled b_M_unrolled 2 (some .int) :: gG
abbrev b_M_leaf : ByteArray := prog_10_method_20_code
def y_M_leaf : MethodName := ⟨R_M, "leaf", "(II)I"⟩
set_option maxRecDepth 20000 in
theorem k_M_leaf : Cond.code y_M_leaf b_M_leaf 3 (some .int) ∈ gG := gG_of (List.mem_of_getElem? (i := 935) rfl) rfl
abbrev ws_M_leaf : List Cond := .code y_M_leaf b_M_leaf 3 (some .int) :: gG
abbrev b_M_bars : ByteArray := prog_10_method_21_code
def y_M_bars : MethodName := ⟨R_M, "bars", "(IIZ)Z"⟩
set_option maxRecDepth 20000 in
theorem k_M_bars : Cond.code y_M_bars b_M_bars 5 (some .boolean) ∈ gG := gG_of (List.mem_of_getElem? (i := 939) rfl) rfl
abbrev ws_M_bars : List Cond := .code y_M_bars b_M_bars 5 (some .boolean) :: gG
abbrev b_M_fits : ByteArray := prog_10_method_22_code
def y_M_fits : MethodName := ⟨R_M, "fits", "(II)Z"⟩
set_option maxRecDepth 20000 in
theorem k_M_fits : Cond.code y_M_fits b_M_fits 5 (some .boolean) ∈ gG := gG_of (List.mem_of_getElem? (i := 947) rfl) rfl
abbrev ws_M_fits : List Cond := .code y_M_fits b_M_fits 5 (some .boolean) :: gG
abbrev b_M_side : ByteArray := prog_10_method_23_code
def y_M_side : MethodName := ⟨R_M, "side", "(II)I"⟩
set_option maxRecDepth 20000 in
theorem k_M_side : Cond.code y_M_side b_M_side 6 (some .int) ∈ gG := gG_of (List.mem_of_getElem? (i := 951) rfl) rfl
abbrev ws_M_side : List Cond := .code y_M_side b_M_side 6 (some .int) :: gG
abbrev b_M_clip : ByteArray := prog_10_method_24_code
def y_M_clip : MethodName := ⟨R_M, "clip", "(I)I"⟩
set_option maxRecDepth 20000 in
theorem k_M_clip : Cond.code y_M_clip b_M_clip 4 (some .int) ∈ gG := gG_of (List.mem_of_getElem? (i := 943) rfl) rfl
abbrev ws_M_clip : List Cond := .code y_M_clip b_M_clip 4 (some .int) :: gG
abbrev b_M_at : ByteArray := prog_10_method_25_code
def y_M_at : MethodName := ⟨R_M, "at", "(II)I"⟩
set_option maxRecDepth 20000 in
theorem k_M_at : Cond.code y_M_at b_M_at 3 (some .int) ∈ gG := gG_of (List.mem_of_getElem? (i := 955) rfl) rfl
abbrev ws_M_at : List Cond := .code y_M_at b_M_at 3 (some .int) :: gG
abbrev b_M_clipped : ByteArray := prog_10_method_26_code
def y_M_clipped : MethodName := ⟨R_M, "clipped", "(I)I"⟩
set_option maxRecDepth 20000 in
theorem k_M_clipped : Cond.code y_M_clipped b_M_clipped 2 (some .int) ∈ gG := gG_of (List.mem_of_getElem? (i := 959) rfl) rfl
abbrev ws_M_clipped : List Cond := .code y_M_clipped b_M_clipped 2 (some .int) :: gG
abbrev b_M_shrink : ByteArray := prog_10_method_27_code
def y_M_shrink : MethodName := ⟨R_M, "shrink", "(III)I"⟩
set_option maxRecDepth 20000 in
theorem k_M_shrink : Cond.code y_M_shrink b_M_shrink 4 (some .int) ∈ gG := gG_of (List.mem_of_getElem? (i := 963) rfl) rfl
abbrev ws_M_shrink : List Cond := .code y_M_shrink b_M_shrink 4 (some .int) :: gG
abbrev b_M_row : ByteArray := prog_10_method_28_code
def y_M_row : MethodName := ⟨R_M, "row", "(II)Z"⟩
set_option maxRecDepth 20000 in
theorem k_M_row : Cond.code y_M_row b_M_row 3 (some .boolean) ∈ gG := gG_of (List.mem_of_getElem? (i := 967) rfl) rfl
abbrev ws_M_row : List Cond := .code y_M_row b_M_row 3 (some .boolean) :: gG
abbrev b_M_knife : ByteArray := prog_10_method_29_code
def y_M_knife : MethodName := ⟨R_M, "knife", "(I)I"⟩
set_option maxRecDepth 20000 in
theorem k_M_knife : Cond.code y_M_knife b_M_knife 4 (some .int) ∈ gG := gG_of (List.mem_of_getElem? (i := 971) rfl) rfl
abbrev ws_M_knife : List Cond := .code y_M_knife b_M_knife 4 (some .int) :: gG
abbrev b_W_at0 : ByteArray := method_2_code
def y_W_at0 : MethodName := ⟨R_W, "cell", "([II)I"⟩
set_option maxRecDepth 20000 in
theorem k_W_at0 : Cond.code y_W_at0 b_W_at0 2 (some .int) ∈ gG := gG_of (List.mem_of_getElem? (i := 341) rfl) rfl
abbrev ws_W_at0 : List Cond := .code y_W_at0 b_W_at0 2 (some .int) :: gG
abbrev b_W_cell : ByteArray := method_3_code
def y_W_cell : MethodName := ⟨R_W, "cell", "(LPeelRibbons;IIIZ[J)I"⟩
abbrev b_W_axis : ByteArray := method_4_code
def y_W_axis : MethodName := ⟨R_W, "axis", "(LPeelRibbons;I[J)I"⟩
abbrev b_W_roomOf : ByteArray := method_5_code
def y_W_roomOf : MethodName := ⟨R_W, "roomOf", "(LPeelRibbons;IIII[J)I"⟩
abbrev b_W_peel : ByteArray := method_6_code
def y_W_peel : MethodName := ⟨R_W, "peel", "(LPeelRibbons;II[J)I"⟩
abbrev b_W_before : ByteArray := method_7_code
def y_W_before : MethodName := ⟨R_W, "before", "(LPeelRibbons;I[J)I"⟩
abbrev b_W_fault : ByteArray := method_8_code
def y_W_fault : MethodName := ⟨R_W, "fault", "(LPeelRibbons;III[J)I"⟩
abbrev b_W_unrolled : ByteArray := method_9_code
def y_W_unrolled : MethodName := ⟨R_W, "unrolled", "(LPeelRibbons;I[J)I"⟩
abbrev b_W_leaf : ByteArray := method_10_code
def y_W_leaf : MethodName := ⟨R_W, "leaf", "(LPeelRibbons;II[J)I"⟩
abbrev b_W_bars : ByteArray := method_11_code
def y_W_bars : MethodName := ⟨R_W, "bars", "(LPeelRibbons;IIZ[J)I"⟩
abbrev b_W_clip : ByteArray := method_12_code
def y_W_clip : MethodName := ⟨R_W, "clip", "(LPeelRibbons;I[J)I"⟩
abbrev b_W_at : ByteArray := method_13_code
def y_W_at : MethodName := ⟨R_W, "at", "(LPeelRibbons;II[J)I"⟩
abbrev b_W_clipped : ByteArray := method_14_code
def y_W_clipped : MethodName := ⟨R_W, "clipped", "(LPeelRibbons;I[J)I"⟩
abbrev b_W_shrink : ByteArray := method_15_code
def y_W_shrink : MethodName := ⟨R_W, "shrink", "(LPeelRibbons;III[J)I"⟩
abbrev b_W_row : ByteArray := method_16_code
def y_W_row : MethodName := ⟨R_W, "row", "(LPeelRibbons;II[J)I"⟩
abbrev b_W_knife : ByteArray := method_17_code
def y_W_knife : MethodName := ⟨R_W, "knife", "(LPeelRibbons;I[J)I"⟩
-- no code row: ('PeelRibbonsLaw', 'law', '([I)Z')
end
section
/-! NUMBERS: every int and long of a walk is the image of an integer; sums, differences and products need no bound. -/
def iI (z : Int) : Int32 := Int32.ofInt z
def lI (z : Int) : Int64 := Int64.ofInt z
abbrev kM : Type := Nat → Nat → Int
def iR (z : Int) : Prop := -2147483648 ≤ z ∧ z < 2147483648
def lR (z : Int) : Prop := -9223372036854775808 ≤ z ∧ z < 9223372036854775808
theorem iI_toInt {z : Int} (h : iR z) : (iI z).toInt = z := Int32.toInt_ofInt_of_le (by have := h.1; omega) (by have := h.2; omega)
theorem lI_toInt {z : Int} (h : lR z) : (lI z).toInt = z := Int64.toInt_ofInt_of_le (by have := h.1; omega) (by have := h.2; omega)
theorem iI_eta (x : Int32) : x = iI x.toInt := (Int32.ofInt_toInt x).symm
theorem iR_toInt (x : Int32) : iR x.toInt := ⟨by have := x.le_toInt; omega, by have := x.toInt_lt; omega⟩
theorem iI_add (a b : Int) : iI a + iI b = iI (a + b) := (Int32.ofInt_add a b).symm
theorem iI_sub (a b : Int) : iI a - iI b = iI (a - b) := (Int32.ofInt_sub a b).symm
theorem iI_mul (a b : Int) : iI a * iI b = iI (a * b) := (Int32.ofInt_mul a b).symm
theorem lI_add (a b : Int) : lI a + lI b = lI (a + b) := (Int64.ofInt_add a b).symm
theorem lI_sub (a b : Int) : lI a - lI b = lI (a - b) := (Int64.ofInt_sub a b).symm
theorem lI_mul (a b : Int) : lI a * lI b = lI (a * b) := (Int64.ofInt_mul a b).symm
theorem iI_lt {a b : Int} (ha : iR a) (hb : iR b) : iI a < iI b ↔ a < b := by rw [Int32.lt_iff_toInt_lt, iI_toInt ha, iI_toInt hb]
theorem iI_le {a b : Int} (ha : iR a) (hb : iR b) : iI a ≤ iI b ↔ a ≤ b := by rw [Int32.le_iff_toInt_le, iI_toInt ha, iI_toInt hb]
theorem iI_eq {a b : Int} (ha : iR a) (hb : iR b) : iI a = iI b ↔ a = b := by rw [← Int32.toInt_inj, iI_toInt ha, iI_toInt hb]
theorem lI_lt {a b : Int} (ha : lR a) (hb : lR b) : lI a < lI b ↔ a < b := by rw [Int64.lt_iff_toInt_lt, lI_toInt ha, lI_toInt hb]
theorem lI_eq {a b : Int} (ha : lR a) (hb : lR b) : lI a = lI b ↔ a = b := by rw [← Int64.toInt_inj, lI_toInt ha, lI_toInt hb]
theorem iI_0 : iI 0 = 0 := by decide
theorem iR_0 : iR 0 := ⟨by decide, by decide⟩
theorem iI_lt0 {a : Int} (ha : iR a) : iI a < 0 ↔ a < 0 := by rw [← iI_0]; exact iI_lt ha iR_0
theorem iI_le0 {a : Int} (ha : iR a) : iI a ≤ 0 ↔ a ≤ 0 := by rw [← iI_0]; exact iI_le ha iR_0
theorem iI_0lt {a : Int} (ha : iR a) : 0 < iI a ↔ 0 < a := by rw [← iI_0]; exact iI_lt iR_0 ha
theorem iI_0le {a : Int} (ha : iR a) : 0 ≤ iI a ↔ 0 ≤ a := by rw [← iI_0]; exact iI_le iR_0 ha
theorem iI_eq0 {a : Int} (ha : iR a) : iI a = 0 ↔ a = 0 := by rw [← iI_0]; exact iI_eq ha iR_0
theorem iI_clamp {a : Int} (ha : iR a) : (iI a).toNatClampNeg = a.toNat := Int32.toNatClampNeg_ofInt_of_le (by have := ha.1; omega) (by have := ha.2; omega)
theorem iI_in {a : Int} {n : Nat} (ha : iR a) (h0 : 0 ≤ a) (h1 : a < (n : Int)) : vp_in (iI a) n := vp_in_iff.mpr (by rw [iI_toInt ha]; exact ⟨h0, h1⟩)
theorem iI_div {a b : Int} (ha : iR a) (hb : iR b) (h0 : 0 ≤ a) (h1 : 0 < b) : iI a / iI b = iI (a / b) := by
  have hne : iI b ≠ -1 := by
    intro h
    have h2 := congrArg Int32.toInt h
    rw [iI_toInt hb] at h2
    have h3 : (-1 : Int32).toInt = -1 := by decide
    rw [h3] at h2
    omega
  have hle : a / b ≤ a := Int.ediv_le_self b h0
  have hge : 0 ≤ a / b := Int.ediv_nonneg h0 (Int.le_of_lt h1)
  have hr : iR (a / b) := ⟨by omega, by have := ha.2; omega⟩
  apply Int32.toInt_inj.mp
  rw [Int32.toInt_div_of_ne_right _ _ hne, iI_toInt ha, iI_toInt hb, iI_toInt hr, Int.tdiv_eq_ediv_of_nonneg h0]
theorem iI_long {a : Int} (ha : iR a) : (iI a).toInt64 = lI a := by
  apply Int64.toInt_inj.mp
  rw [Int32.toInt_toInt64, iI_toInt ha, lI_toInt ⟨by have := ha.1; omega, by have := ha.2; omega⟩]
def kAnd (a b : Int) : Int := (iI a &&& iI b).toInt
def kOr (a b : Int) : Int := (iI a ||| iI b).toInt
def kXor (a b : Int) : Int := (iI a ^^^ iI b).toInt
def kShl (a b : Int) : Int := (iI a <<< (iI b &&& 31)).toInt
def kShr (a b : Int) : Int := (iI a >>> (iI b &&& 31)).toInt
theorem upd_iI (f : Nat → Int) (i : Nat) (z : Int) : upd (fun j => iI (f j)) i (iI z) = fun j => iI (va_up f i z j) := by
  funext j
  by_cases h : j = i
  · simp [upd, va_up, h]
  · simp [upd, va_up, h]
theorem updL_lI (f : Nat → Int) (i : Nat) (z : Int) : vp_updL (fun j => lI (f j)) i (lI z) = fun j => lI (va_up f i z j) := by
  funext j
  by_cases h : j = i
  · simp [vp_updL, va_up, h]
  · simp [vp_updL, va_up, h]
theorem narZ {z : Int} (h : z = 0 ∨ z = 1) : narrow .boolean (.int (iI z)) = .int (iI z) := by rcases h with rfl | rfl <;> decide +kernel
theorem vnarZ {z : Int} (h : z = 0 ∨ z = 1) : vp_nar .boolean (iI z) = iI z := by rcases h with rfl | rfl <;> decide +kernel
theorem fitZ {z : Int} (h : z = 0 ∨ z = 1) : fits .boolean (.int (iI z)) = true := by rcases h with rfl | rfl <;> decide +kernel
section KR
variable {p : Program} {l : Launch} {e : Env} {R : Room} {s : State} {m : MethodId} {args : Array Value} {below : List Frame} {meth : Method} {c : Code} {H : Heap} {locs : List Loc} {cells slots : Nat} {Q : State → Prop}
variable {cc : ByteArray} {pc : Nat} {ls : Array Slot} {rest : List Value}
/-- the top number gets a name -/
theorem ki_nm {z : Int} (k : ∀ v : Int, v = z → W p l e R s m args below meth c H locs cells slots Q (F0 m pc ls (.int (iI v) :: rest))) : W p l e R s m args below meth c H locs cells slots Q (F0 m pc ls (.int (iI z) :: rest)) := k z rfl
theorem kl_nm {z : Int} (k : ∀ v : Int, v = z → W p l e R s m args below meth c H locs cells slots Q (F0 m pc ls (.long (lI v) :: rest))) : W p l e R s m args below meth c H locs cells slots Q (F0 m pc ls (.long (lI z) :: rest)) := k z rfl
theorem ki_add (hx : p.tables.exec = Jvm.exec) (hb : c.code = cc) {a b : Int} (hd : decode cc pc = .ok (.iadd, 1)) (k : W p l e R s m args below meth c H locs cells slots Q (F0 m (pc + 1) ls (.int (iI (a + b)) :: rest))) : W p l e R s m args below meth c H locs cells slots Q (F0 m pc ls (.int (iI b) :: .int (iI a) :: rest)) := lv_iadd hx hb hd (by rw [iI_add]; exact k)
theorem ki_sub (hx : p.tables.exec = Jvm.exec) (hb : c.code = cc) {a b : Int} (hd : decode cc pc = .ok (.isub, 1)) (k : W p l e R s m args below meth c H locs cells slots Q (F0 m (pc + 1) ls (.int (iI (a - b)) :: rest))) : W p l e R s m args below meth c H locs cells slots Q (F0 m pc ls (.int (iI b) :: .int (iI a) :: rest)) := lv_isub hx hb hd (by rw [iI_sub]; exact k)
theorem ki_mul (hx : p.tables.exec = Jvm.exec) (hb : c.code = cc) {a b : Int} (hd : decode cc pc = .ok (.imul, 1)) (k : W p l e R s m args below meth c H locs cells slots Q (F0 m (pc + 1) ls (.int (iI (a * b)) :: rest))) : W p l e R s m args below meth c H locs cells slots Q (F0 m pc ls (.int (iI b) :: .int (iI a) :: rest)) := lv_imul hx hb hd (by rw [iI_mul]; exact k)
theorem ki_and (hx : p.tables.exec = Jvm.exec) (hb : c.code = cc) {a b : Int} (hd : decode cc pc = .ok (.iand, 1)) (k : W p l e R s m args below meth c H locs cells slots Q (F0 m (pc + 1) ls (.int (iI (kAnd a b)) :: rest))) : W p l e R s m args below meth c H locs cells slots Q (F0 m pc ls (.int (iI b) :: .int (iI a) :: rest)) := lv_iand hx hb hd (by rw [iI_eta (iI a &&& iI b)]; exact k)
theorem ki_or (hx : p.tables.exec = Jvm.exec) (hb : c.code = cc) {a b : Int} (hd : decode cc pc = .ok (.ior, 1)) (k : W p l e R s m args below meth c H locs cells slots Q (F0 m (pc + 1) ls (.int (iI (kOr a b)) :: rest))) : W p l e R s m args below meth c H locs cells slots Q (F0 m pc ls (.int (iI b) :: .int (iI a) :: rest)) := lv_ior hx hb hd (by rw [iI_eta (iI a ||| iI b)]; exact k)
theorem ki_xor (hx : p.tables.exec = Jvm.exec) (hb : c.code = cc) {a b : Int} (hd : decode cc pc = .ok (.ixor, 1)) (k : W p l e R s m args below meth c H locs cells slots Q (F0 m (pc + 1) ls (.int (iI (kXor a b)) :: rest))) : W p l e R s m args below meth c H locs cells slots Q (F0 m pc ls (.int (iI b) :: .int (iI a) :: rest)) := lv_ixor hx hb hd (by rw [iI_eta (iI a ^^^ iI b)]; exact k)
theorem ki_shl (hx : p.tables.exec = Jvm.exec) (hb : c.code = cc) {a b : Int} (hd : decode cc pc = .ok (.ishl, 1)) (k : W p l e R s m args below meth c H locs cells slots Q (F0 m (pc + 1) ls (.int (iI (kShl a b)) :: rest))) : W p l e R s m args below meth c H locs cells slots Q (F0 m pc ls (.int (iI b) :: .int (iI a) :: rest)) := lv_ishl hx hb hd (by rw [iI_eta (iI a <<< (iI b &&& 31))]; exact k)
theorem ki_shr (hx : p.tables.exec = Jvm.exec) (hb : c.code = cc) {a b : Int} (hd : decode cc pc = .ok (.ishr, 1)) (k : W p l e R s m args below meth c H locs cells slots Q (F0 m (pc + 1) ls (.int (iI (kShr a b)) :: rest))) : W p l e R s m args below meth c H locs cells slots Q (F0 m pc ls (.int (iI b) :: .int (iI a) :: rest)) := lv_ishr hx hb hd (by rw [iI_eta (iI a >>> (iI b &&& 31))]; exact k)
theorem ki_div (hx : p.tables.exec = Jvm.exec) (hb : c.code = cc) {a b : Int} (hd : decode cc pc = .ok (.idiv, 1)) (q : iR a ∧ iR b ∧ 0 ≤ a ∧ 0 < b) (k : W p l e R s m args below meth c H locs cells slots Q (F0 m (pc + 1) ls (.int (iI (a / b)) :: rest))) : W p l e R s m args below meth c H locs cells slots Q (F0 m pc ls (.int (iI b) :: .int (iI a) :: rest)) := lv_idiv hx hb hd (by rw [iI_eq0 q.2.1]; have := q.2.2.2; omega) (by rw [iI_div q.1 q.2.1 q.2.2.1 q.2.2.2]; exact k)
theorem kl_add (hx : p.tables.exec = Jvm.exec) (hb : c.code = cc) {a b : Int} (hd : decode cc pc = .ok (.ladd, 1)) (k : W p l e R s m args below meth c H locs cells slots Q (F0 m (pc + 1) ls (.long (lI (a + b)) :: rest))) : W p l e R s m args below meth c H locs cells slots Q (F0 m pc ls (.long (lI b) :: .long (lI a) :: rest)) := lv_ladd hx hb hd (by rw [lI_add]; exact k)
theorem kl_sub (hx : p.tables.exec = Jvm.exec) (hb : c.code = cc) {a b : Int} (hd : decode cc pc = .ok (.lsub, 1)) (k : W p l e R s m args below meth c H locs cells slots Q (F0 m (pc + 1) ls (.long (lI (a - b)) :: rest))) : W p l e R s m args below meth c H locs cells slots Q (F0 m pc ls (.long (lI b) :: .long (lI a) :: rest)) := lv_lsub hx hb hd (by rw [lI_sub]; exact k)
theorem kl_mul (hx : p.tables.exec = Jvm.exec) (hb : c.code = cc) {a b : Int} (hd : decode cc pc = .ok (.lmul, 1)) (k : W p l e R s m args below meth c H locs cells slots Q (F0 m (pc + 1) ls (.long (lI (a * b)) :: rest))) : W p l e R s m args below meth c H locs cells slots Q (F0 m pc ls (.long (lI b) :: .long (lI a) :: rest)) := lv_lmul hx hb hd (by rw [lI_mul]; exact k)
theorem ki_i2l (hx : p.tables.exec = Jvm.exec) (hb : c.code = cc) {a : Int} (hd : decode cc pc = .ok (.i2l, 1)) (q : iR a) (k : W p l e R s m args below meth c H locs cells slots Q (F0 m (pc + 1) ls (.long (lI a) :: rest))) : W p l e R s m args below meth c H locs cells slots Q (F0 m pc ls (.int (iI a) :: rest)) := lv_i2l hx hb hd (iI_long q) k
theorem ki_icmp_eq (hx : p.tables.exec = Jvm.exec) (hb : c.code = cc) {a b : Int} {off : Int} {tgt : Nat} (hd : decode cc pc = .ok (.if_icmp .eq off, 3)) (ht : (pc : Int) + off = (tgt : Int)) (ra : iR a) (rb : iR b) (kt : a = b → W p l e R s m args below meth c H locs cells slots Q (F0 m tgt ls rest)) (kf : ¬ a = b → W p l e R s m args below meth c H locs cells slots Q (F0 m (pc + 3) ls rest)) : W p l e R s m args below meth c H locs cells slots Q (F0 m pc ls (.int (iI b) :: .int (iI a) :: rest)) := lv_icmp_eq hx hb hd ht (fun h => kt ((iI_eq ra rb).mp h)) (fun h => kf (fun q => h ((iI_eq ra rb).mpr q)))
theorem ki_icmp_ne (hx : p.tables.exec = Jvm.exec) (hb : c.code = cc) {a b : Int} {off : Int} {tgt : Nat} (hd : decode cc pc = .ok (.if_icmp .ne off, 3)) (ht : (pc : Int) + off = (tgt : Int)) (ra : iR a) (rb : iR b) (kt : ¬ a = b → W p l e R s m args below meth c H locs cells slots Q (F0 m tgt ls rest)) (kf : a = b → W p l e R s m args below meth c H locs cells slots Q (F0 m (pc + 3) ls rest)) : W p l e R s m args below meth c H locs cells slots Q (F0 m pc ls (.int (iI b) :: .int (iI a) :: rest)) := lv_icmp_ne hx hb hd ht (fun h => kt (fun q => h ((iI_eq ra rb).mpr q))) (fun h => kf ((iI_eq ra rb).mp h))
theorem ki_icmp_lt (hx : p.tables.exec = Jvm.exec) (hb : c.code = cc) {a b : Int} {off : Int} {tgt : Nat} (hd : decode cc pc = .ok (.if_icmp .lt off, 3)) (ht : (pc : Int) + off = (tgt : Int)) (ra : iR a) (rb : iR b) (kt : a < b → W p l e R s m args below meth c H locs cells slots Q (F0 m tgt ls rest)) (kf : ¬ a < b → W p l e R s m args below meth c H locs cells slots Q (F0 m (pc + 3) ls rest)) : W p l e R s m args below meth c H locs cells slots Q (F0 m pc ls (.int (iI b) :: .int (iI a) :: rest)) := lv_icmp_lt hx hb hd ht (fun h => kt ((iI_lt ra rb).mp h)) (fun h => kf (fun q => h ((iI_lt ra rb).mpr q)))
theorem ki_icmp_ge (hx : p.tables.exec = Jvm.exec) (hb : c.code = cc) {a b : Int} {off : Int} {tgt : Nat} (hd : decode cc pc = .ok (.if_icmp .ge off, 3)) (ht : (pc : Int) + off = (tgt : Int)) (ra : iR a) (rb : iR b) (kt : b ≤ a → W p l e R s m args below meth c H locs cells slots Q (F0 m tgt ls rest)) (kf : ¬ b ≤ a → W p l e R s m args below meth c H locs cells slots Q (F0 m (pc + 3) ls rest)) : W p l e R s m args below meth c H locs cells slots Q (F0 m pc ls (.int (iI b) :: .int (iI a) :: rest)) := lv_icmp_ge hx hb hd ht (fun h => kt ((iI_le rb ra).mp h)) (fun h => kf (fun q => h ((iI_le rb ra).mpr q)))
theorem ki_icmp_gt (hx : p.tables.exec = Jvm.exec) (hb : c.code = cc) {a b : Int} {off : Int} {tgt : Nat} (hd : decode cc pc = .ok (.if_icmp .gt off, 3)) (ht : (pc : Int) + off = (tgt : Int)) (ra : iR a) (rb : iR b) (kt : b < a → W p l e R s m args below meth c H locs cells slots Q (F0 m tgt ls rest)) (kf : ¬ b < a → W p l e R s m args below meth c H locs cells slots Q (F0 m (pc + 3) ls rest)) : W p l e R s m args below meth c H locs cells slots Q (F0 m pc ls (.int (iI b) :: .int (iI a) :: rest)) := lv_icmp_gt hx hb hd ht (fun h => kt ((iI_lt rb ra).mp h)) (fun h => kf (fun q => h ((iI_lt rb ra).mpr q)))
theorem ki_icmp_le (hx : p.tables.exec = Jvm.exec) (hb : c.code = cc) {a b : Int} {off : Int} {tgt : Nat} (hd : decode cc pc = .ok (.if_icmp .le off, 3)) (ht : (pc : Int) + off = (tgt : Int)) (ra : iR a) (rb : iR b) (kt : a ≤ b → W p l e R s m args below meth c H locs cells slots Q (F0 m tgt ls rest)) (kf : ¬ a ≤ b → W p l e R s m args below meth c H locs cells slots Q (F0 m (pc + 3) ls rest)) : W p l e R s m args below meth c H locs cells slots Q (F0 m pc ls (.int (iI b) :: .int (iI a) :: rest)) := lv_icmp_le hx hb hd ht (fun h => kt ((iI_le ra rb).mp h)) (fun h => kf (fun q => h ((iI_le ra rb).mpr q)))
theorem ki_if_eq (hx : p.tables.exec = Jvm.exec) (hb : c.code = cc) {a : Int} {off : Int} {tgt : Nat} (hd : decode cc pc = .ok (.ifCond .eq off, 3)) (ht : (pc : Int) + off = (tgt : Int)) (ra : iR a) (kt : a = 0 → W p l e R s m args below meth c H locs cells slots Q (F0 m tgt ls rest)) (kf : ¬ a = 0 → W p l e R s m args below meth c H locs cells slots Q (F0 m (pc + 3) ls rest)) : W p l e R s m args below meth c H locs cells slots Q (F0 m pc ls (.int (iI a) :: rest)) := lv_if_eq hx hb hd ht (fun h => kt ((iI_eq0 ra).mp h)) (fun h => kf (fun q => h ((iI_eq0 ra).mpr q)))
theorem ki_if_ne (hx : p.tables.exec = Jvm.exec) (hb : c.code = cc) {a : Int} {off : Int} {tgt : Nat} (hd : decode cc pc = .ok (.ifCond .ne off, 3)) (ht : (pc : Int) + off = (tgt : Int)) (ra : iR a) (kt : ¬ a = 0 → W p l e R s m args below meth c H locs cells slots Q (F0 m tgt ls rest)) (kf : a = 0 → W p l e R s m args below meth c H locs cells slots Q (F0 m (pc + 3) ls rest)) : W p l e R s m args below meth c H locs cells slots Q (F0 m pc ls (.int (iI a) :: rest)) := lv_if_ne hx hb hd ht (fun h => kt (fun q => h ((iI_eq0 ra).mpr q))) (fun h => kf ((iI_eq0 ra).mp h))
theorem ki_if_lt (hx : p.tables.exec = Jvm.exec) (hb : c.code = cc) {a : Int} {off : Int} {tgt : Nat} (hd : decode cc pc = .ok (.ifCond .lt off, 3)) (ht : (pc : Int) + off = (tgt : Int)) (ra : iR a) (kt : a < 0 → W p l e R s m args below meth c H locs cells slots Q (F0 m tgt ls rest)) (kf : ¬ a < 0 → W p l e R s m args below meth c H locs cells slots Q (F0 m (pc + 3) ls rest)) : W p l e R s m args below meth c H locs cells slots Q (F0 m pc ls (.int (iI a) :: rest)) := lv_if_lt hx hb hd ht (fun h => kt ((iI_lt0 ra).mp h)) (fun h => kf (fun q => h ((iI_lt0 ra).mpr q)))
theorem ki_if_ge (hx : p.tables.exec = Jvm.exec) (hb : c.code = cc) {a : Int} {off : Int} {tgt : Nat} (hd : decode cc pc = .ok (.ifCond .ge off, 3)) (ht : (pc : Int) + off = (tgt : Int)) (ra : iR a) (kt : 0 ≤ a → W p l e R s m args below meth c H locs cells slots Q (F0 m tgt ls rest)) (kf : ¬ 0 ≤ a → W p l e R s m args below meth c H locs cells slots Q (F0 m (pc + 3) ls rest)) : W p l e R s m args below meth c H locs cells slots Q (F0 m pc ls (.int (iI a) :: rest)) := lv_if_ge hx hb hd ht (fun h => kt ((iI_0le ra).mp h)) (fun h => kf (fun q => h ((iI_0le ra).mpr q)))
theorem ki_if_gt (hx : p.tables.exec = Jvm.exec) (hb : c.code = cc) {a : Int} {off : Int} {tgt : Nat} (hd : decode cc pc = .ok (.ifCond .gt off, 3)) (ht : (pc : Int) + off = (tgt : Int)) (ra : iR a) (kt : 0 < a → W p l e R s m args below meth c H locs cells slots Q (F0 m tgt ls rest)) (kf : ¬ 0 < a → W p l e R s m args below meth c H locs cells slots Q (F0 m (pc + 3) ls rest)) : W p l e R s m args below meth c H locs cells slots Q (F0 m pc ls (.int (iI a) :: rest)) := lv_if_gt hx hb hd ht (fun h => kt ((iI_0lt ra).mp h)) (fun h => kf (fun q => h ((iI_0lt ra).mpr q)))
theorem ki_if_le (hx : p.tables.exec = Jvm.exec) (hb : c.code = cc) {a : Int} {off : Int} {tgt : Nat} (hd : decode cc pc = .ok (.ifCond .le off, 3)) (ht : (pc : Int) + off = (tgt : Int)) (ra : iR a) (kt : a ≤ 0 → W p l e R s m args below meth c H locs cells slots Q (F0 m tgt ls rest)) (kf : ¬ a ≤ 0 → W p l e R s m args below meth c H locs cells slots Q (F0 m (pc + 3) ls rest)) : W p l e R s m args below meth c H locs cells slots Q (F0 m pc ls (.int (iI a) :: rest)) := lv_if_le hx hb hd ht (fun h => kt ((iI_le0 ra).mp h)) (fun h => kf (fun q => h ((iI_le0 ra).mpr q)))
end KR
end
section
/-! WORLDS: one list of cells, its numbers a function of cell and place; contracts over it. -/
def kW (D : va_G) (cl : List vw_C) (A : Nat → Prop) (H0 : Heap) (ws : va_W) (H : Heap) (locs : List Loc) : Prop := va_P D cl ws H ∧ va_D A ws ∧ va_S A H0 H locs
theorem kW_at {w1 w2 : va_W} (e : w1.map Prod.fst = w2.map Prod.fst) {k : Nat} {q : Nat × va_E} (h : w2[k]? = some q) : ∃ p : Nat × va_E, w1[k]? = some p ∧ p.1 = q.1 := by
  have h1 : (w1.map Prod.fst)[k]? = some q.1 := by rw [e, List.getElem?_map, h]; rfl
  rw [List.getElem?_map] at h1
  cases h2 : w1[k]? with
  | none => rw [h2] at h1; cases h1
  | some p => rw [h2] at h1; exact ⟨p, rfl, Option.some.inj h1⟩
theorem kW_D {A : Nat → Prop} {w1 w2 : va_W} (h : va_D A w1) (e : w1.map Prod.fst = w2.map Prod.fst) : va_D A w2 :=
  ⟨fun i j p q hi hj hpq => by
    obtain ⟨p1, a1, a2⟩ := kW_at e hi
    obtain ⟨q1, b1, b2⟩ := kW_at e hj
    exact h.1 i j p1 q1 a1 b1 (a2.trans (hpq.trans b2.symm)), fun k q hk => by
    obtain ⟨p1, a1, a2⟩ := kW_at e hk
    rw [← a2]
    exact h.2 k p1 a1⟩
/-- the nest mates' links that a method and its callees use -/
def kNw (ns : List (String × Nat × MethodName × String)) (U : State) : Prop := ∀ q ∈ ns, va_Nw (.methodLinkNest q.1 q.2.1 q.2.2.1 q.2.2.2) U
theorem kNw.same {ns : List (String × Nat × MethodName × String)} {u U : State} (h : u.vm = U.vm) (hZ : kNw ns u) : kNw ns U := fun q hq => va_Nw.same rfl h (hZ q hq)
theorem kNw.warm {ns : List (String × Nat × MethodName × String)} {s U : State} (hW : s.WarmedH U.vm) (hZ : kNw ns s) : kNw ns U := fun q hq => va_Nw.warmM hW (hZ q hq)
def kPc (D : va_G) (cl : List vw_C) (tys : List (ClassId × FieldType)) (ws : va_W) (ns : List (String × Nat × MethodName × String)) (sz : Nat) (av : List Value) : Array Value → State → Prop := va_Pc av (fun U => U.heap.size = sz ∧ va_P D cl ws U.heap ∧ va_K D cl tys U ∧ va_D (fun _ => True) ws ∧ kNw ns U)
theorem kPc.blind {D : va_G} {cl : List vw_C} {tys : List (ClassId × FieldType)} {ws : va_W} {ns : List (String × Nat × MethodName × String)} {sz : Nat} {av : List Value} : FrameBlind (kPc D cl tys ws ns sz av) := fun a U g mk q => by
  obtain ⟨q0, q1, qP, qK, qD, qN⟩ := q
  exact ⟨q0, q1, qP, va_K.moved (u := U) (U := U.calling g mk a) (Vm.Alike.refl U.vm) qK, qD, kNw.same (u := U) (U := U.calling g mk a) rfl qN⟩
def kQi (D : va_G) (cl : List vw_C) (w : kM → va_W) (P : Int → kM → Prop) (A : Nat → Prop) : Array Value → State → Outcome → State → Prop := va_Qi (S := Int × kM) (fun r u => r = iI u.1 ∧ P u.1 u.2) (fun u t => va_P D cl (w u.2) t.heap) A
def kQv (D : va_G) (cl : List vw_C) (w : kM → va_W) (P : kM → Prop) (A : Nat → Prop) : Array Value → State → Outcome → State → Prop := va_Qv (S := kM) P (fun u t => va_P D cl (w u) t.heap) A
/-- a method of a world that makes nothing: from the numbers σ it comes back with an int and numbers for which P holds -/
def kMi (l : Launch) (y : MethodName) (wsy : List Cond) (rm : Room) (D : va_G) (cl : List vw_C) (tys : List (ClassId × FieldType)) (w : kM → va_W) (ns : List (String × Nat × MethodName × String)) (σ : kM) (av : List Value) (P : Int → kM → Prop) : Prop := ∀ sz : Nat, Met l y wsy rm (kPc D cl tys (w σ) ns sz av) (kQi D cl w P (va_A (w σ) sz)) 0 0 (va_A (w σ) sz)
def kMv (l : Launch) (y : MethodName) (wsy : List Cond) (rm : Room) (D : va_G) (cl : List vw_C) (tys : List (ClassId × FieldType)) (w : kM → va_W) (ns : List (String × Nat × MethodName × String)) (σ : kM) (av : List Value) (P : kM → Prop) : Prop := ∀ sz : Nat, Met l y wsy rm (kPc D cl tys (w σ) ns sz av) (kQv D cl w P (va_A (w σ) sz)) 0 0 (va_A (w σ) sz)
theorem k_enter {l : Launch} {y : MethodName} {wsy ws' : List Cond} {rm : Room} {cc : ByteArray} {maxL : Nat} {ret : Option FieldType} {D : va_G} {cl : List vw_C} {tys : List (ClassId × FieldType)} {w0 : va_W} {ns : List (String × Nat × MethodName × String)} {sz : Nat} {av : List Value} {Qc : Array Value → State → Outcome → State → Prop} (hy : plainName y.cls = true) (hw : wsy = Cond.code y cc maxL ret :: ws') (hlen : (lg_sl av).length ≤ maxL)
    (body : ∀ (p : Program) (e : Env) (s : State) (m : MethodId) (below : List Frame) (meth : Method) (c : Code) (ls : Array Slot), CallFix p m c cc maxL s av.toArray wsy y.cls → meth.sig.returnType = ret → meth.locks = false → s.heap.size = sz → (∀ q, s.heap.size ≤ q → va_A w0 sz q) → kW D cl (va_A w0 sz) s.heap w0 s.heap [] → va_K D cl tys s → kNw ns s → lv_has ls maxL (lv_args 0 av) →
      W p l e (headSpec wsy rm).room s m av.toArray below meth c s.heap [] 0 0 (MQ below Qc av.toArray s 0 0 (va_A w0 sz)) (F0 m 0 ls [])) : Met l y wsy rm (kPc D cl tys w0 ns sz av) Qc 0 0 (va_A w0 sz) := by
  refine Met.ofW (cc := cc) (maxL := maxL) (ret := ret) hy hw ?_
  intro p e s m args below meth c s₁ B hml hv
  obtain ⟨rfl, hsz, hP, hK, hD0, hn⟩ := hv
  have hl := lv_entry av (n := maxL) hlen
  rw [lg_entry_eq]
  generalize (lg_sl av ++ List.replicate (maxL - (lg_sl av).length) Slot.unset).toArray = ls at hl ⊢
  exact body p e s m below meth c ls ⟨B.exec, B.bytes, hml, findClass_of_methodNamed B.named, atoms_spec (ws := wsy) B.pre⟩ B.returns B.notSynchronized hsz (fun q h => Or.inr (by rw [← hsz]; exact h)) ⟨hP, hD0.self, va_S.rf⟩ hK hn hl
/-- a method that changes nothing -/
def kPp (D : va_G) (cl : List vw_C) (tys : List (ClassId × FieldType)) (ws : va_W) (ns : List (String × Nat × MethodName × String)) (av : List Value) : Array Value → State → Prop := va_Pc av (fun U => va_P D cl ws U.heap ∧ va_K D cl tys U ∧ kNw ns U)
theorem kPp.blind {D : va_G} {cl : List vw_C} {tys : List (ClassId × FieldType)} {ws : va_W} {ns : List (String × Nat × MethodName × String)} {av : List Value} : FrameBlind (kPp D cl tys ws ns av) := fun a U g mk q => by
  obtain ⟨q0, qP, qK, qN⟩ := q
  exact ⟨q0, qP, va_K.moved (u := U) (U := U.calling g mk a) (Vm.Alike.refl U.vm) qK, kNw.same (u := U) (U := U.calling g mk a) rfl qN⟩
def kQp (P : Int → Prop) : Array Value → State → Outcome → State → Prop := fun _ st oc t => ∃ r : Int, oc = .returned (some (.int (iI r))) ∧ P r ∧ t.heap = st.heap
def kMp (l : Launch) (y : MethodName) (wsy : List Cond) (rm : Room) (D : va_G) (cl : List vw_C) (tys : List (ClassId × FieldType)) (w : kM → va_W) (ns : List (String × Nat × MethodName × String)) (σ : kM) (av : List Value) (P : Int → Prop) : Prop := Met l y wsy rm (kPp D cl tys (w σ) ns av) (kQp P) 0 0 (fun _ => False)
theorem k_enterP {l : Launch} {y : MethodName} {wsy ws' : List Cond} {rm : Room} {cc : ByteArray} {maxL : Nat} {ret : Option FieldType} {D : va_G} {cl : List vw_C} {tys : List (ClassId × FieldType)} {w0 : va_W} {ns : List (String × Nat × MethodName × String)} {av : List Value} {Qc : Array Value → State → Outcome → State → Prop} {free : Addr → Prop} (hy : plainName y.cls = true) (hw : wsy = Cond.code y cc maxL ret :: ws') (hlen : (lg_sl av).length ≤ maxL)
    (body : ∀ (p : Program) (e : Env) (s : State) (m : MethodId) (below : List Frame) (meth : Method) (c : Code) (ls : Array Slot), CallFix p m c cc maxL s av.toArray wsy y.cls → meth.sig.returnType = ret → meth.locks = false → va_P D cl w0 s.heap → va_K D cl tys s → kNw ns s → lv_has ls maxL (lv_args 0 av) →
      W p l e (headSpec wsy rm).room s m av.toArray below meth c s.heap [] 0 0 (MQ below Qc av.toArray s 0 0 free) (F0 m 0 ls [])) : Met l y wsy rm (kPp D cl tys w0 ns av) Qc 0 0 free := by
  refine Met.ofW (cc := cc) (maxL := maxL) (ret := ret) hy hw ?_
  intro p e s m args below meth c s₁ B hml hv
  obtain ⟨rfl, hP, hK, hn⟩ := hv
  have hl := lv_entry av (n := maxL) hlen
  rw [lg_entry_eq]
  generalize (lg_sl av ++ List.replicate (maxL - (lg_sl av).length) Slot.unset).toArray = ls at hl ⊢
  exact body p e s m below meth c ls ⟨B.exec, B.bytes, hml, findClass_of_methodNamed B.named, atoms_spec (ws := wsy) B.pre⟩ B.returns B.notSynchronized hP hK hn hl
section KX
variable {p : Program} {l : Launch} {e : Env} {R : Room} {s : State} {m : MethodId} {args : Array Value} {below : List Frame} {meth : Method} {c : Code} {H : Heap} {locs : List Loc} {cells slots : Nat} {Q : State → Prop}
variable {cc : ByteArray} {pc : Nat} {ls : Array Slot} {rest : List Value} {D : va_G} {cl : List vw_C} {A : Nat → Prop} {a : Nat} {tys : List (ClassId × FieldType)} {ws : va_W} {H0 : Heap}
theorem k_iret (hx : p.tables.exec = Jvm.exec) (hb : c.code = cc) (hr : meth.sig.returnType = some .int) (hlocks : meth.locks = false) {w : kM → va_W} {P : Int → kM → Prop} {σ : kM} {z : Int} (hW : kW D cl A s.heap (w σ) H locs) (hdg : decode cc pc = .ok (.ireturn, 1)) (hp : P z σ) : W p l e R s m args below meth c H locs cells slots (MQ below (kQi D cl w P A) args s cells slots A) (F0 m pc ls [.int (iI z)]) :=
  W.iret (v := iI z) hx hb hr (fun t ht _ => ⟨⟨iI z, (z, σ), rfl, ⟨rfl, hp⟩, by dsimp only; rw [ht]; exact hW.1⟩, hW.2.2.F ht⟩) hW.2.2.2.2 hdg hlocks
theorem k_zret (hx : p.tables.exec = Jvm.exec) (hb : c.code = cc) (hr : meth.sig.returnType = some .boolean) (hlocks : meth.locks = false) {w : kM → va_W} {P : Int → kM → Prop} {σ : kM} {z : Int} (hW : kW D cl A s.heap (w σ) H locs) (hdg : decode cc pc = .ok (.ireturn, 1)) (hz : z = 0 ∨ z = 1) (hp : P z σ) : W p l e R s m args below meth c H locs cells slots (MQ below (kQi D cl w P A) args s cells slots A) (F0 m pc ls [.int (iI z)]) :=
  W.zret (v := iI z) hx hb hr (narZ hz) (fun t ht _ => ⟨⟨iI z, (z, σ), rfl, ⟨rfl, hp⟩, by dsimp only; rw [ht]; exact hW.1⟩, hW.2.2.F ht⟩) hW.2.2.2.2 hdg hlocks
theorem k_vret (hx : p.tables.exec = Jvm.exec) (hb : c.code = cc) (hr : meth.sig.returnType = none) (hlocks : meth.locks = false) {w : kM → va_W} {P : kM → Prop} {σ : kM} (hW : kW D cl A s.heap (w σ) H locs) (hdg : decode cc pc = .ok (.return_, 1)) (hp : P σ) : W p l e R s m args below meth c H locs cells slots (MQ below (kQv D cl w P A) args s cells slots A) (F0 m pc ls []) :=
  W.vret hx hb hr (fun t ht _ => ⟨⟨σ, rfl, hp, by dsimp only; rw [ht]; exact hW.1⟩, hW.2.2.F ht⟩) hW.2.2.2.2 hdg hlocks
theorem k_iretP (hx : p.tables.exec = Jvm.exec) (hb : c.code = cc) (hr : meth.sig.returnType = some .int) (hlocks : meth.locks = false) {P : Int → Prop} {z : Int} (hdg : decode cc pc = .ok (.ireturn, 1)) (hp : P z) : W p l e R s m args below meth c s.heap [] cells slots (MQ below (kQp P) args s cells slots (fun _ => False)) (F0 m pc ls [.int (iI z)]) :=
  W.iret (v := iI z) hx hb hr (fun t ht _ => ⟨z, rfl, hp, ht⟩) (fun _ h => by cases h) hdg hlocks
theorem k_zretP (hx : p.tables.exec = Jvm.exec) (hb : c.code = cc) (hr : meth.sig.returnType = some .boolean) (hlocks : meth.locks = false) {P : Int → Prop} {z : Int} (hdg : decode cc pc = .ok (.ireturn, 1)) (hz : z = 0 ∨ z = 1) (hp : P z) : W p l e R s m args below meth c s.heap [] cells slots (MQ below (kQp P) args s cells slots (fun _ => False)) (F0 m pc ls [.int (iI z)]) :=
  W.zret (v := iI z) hx hb hr (narZ hz) (fun t ht _ => ⟨z, rfl, hp, ht⟩) (fun _ h => by cases h) hdg hlocks
theorem k_get (hx : p.tables.exec = Jvm.exec) (hb : c.code = cc) {own C : String} {T : u_T} {N ci index : Nat} {Ts : List Cond} (hts : ∀ w ∈ Ts, w.before args s = true) (hin : ∀ w ∈ u_ws C T N, w ∈ Ts) (hown : s.vm.findClass own = some m.cls) (hK : va_K D cl tys s) (hP : va_P D cl ws H) (q0 : Nat) {fs : List Value} (he : ws[q0]? = some (a, .inr (ci, fs))) (hc : cl[ci]? = some (C, T, N)) (k : Nat) (hk : k < N) (hlink : (Cond.fieldLink own index (T k).1 (T k).2.1 (T k).2.2.1).before args s = true) {v : Value} (hv : fs[k]? = some v) (hdg : decode cc pc = .ok (.getfield index, 3))
    (kk : W p l e R s m args below meth c H locs cells slots Q (F0 m (pc + 3) ls (v :: rest))) : W p l e R s m args below meth c H locs cells slots Q (F0 m pc ls (.ref a :: rest)) :=
  va_get hx hb hts hin hown hK hP q0 he hc k hk hlink (fun _ h => h) hv hdg kk
theorem k_put (hx : p.tables.exec = Jvm.exec) (hb : c.code = cc) {own C : String} {T : u_T} {N ci index : Nat} {Ts : List Cond} (hts : ∀ w ∈ Ts, w.before args s = true) (hin : ∀ w ∈ u_ws C T N, w ∈ Ts) (ty0 : Nat → FieldType) (hty : ∀ k, k < N → parseFieldDescriptor (T k).2.2.1 = some (ty0 k)) (hnm : ∀ a, a < N → ∀ b, b < N → a ≠ b → (T a).2.1 ≠ (T b).2.1) (hown : s.vm.findClass own = some m.cls) (hK : va_K D cl tys s) (hW : kW D cl A H0 ws H locs) (q0 : Nat) {fs : List Value} {ws' : va_W} (he : ws[q0]? = some (a, .inr (ci, fs))) (hc : cl[ci]? = some (C, T, N)) (k : Nat) (hk : k < N) (hlink : (Cond.fieldLink own index (T k).1 (T k).2.1 (T k).2.2.1).before args s = true) (hfin : (T k).2.2.2 = false) {ty : FieldType} {v : Value} (hd : parseFieldDescriptor (T k).2.2.1 = some ty) (hn : narrow ty v = v) (hfit : fits ty v = true) (hl : k < fs.length) (hw : ws.set q0 (a, .inr (ci, fs.set k v)) = ws')
    (hdg : decode cc pc = .ok (.putfield index, 3)) (kk : ∀ (H1 : Heap) (locs1 : List Loc), kW D cl A H0 ws' H1 locs1 → W p l e R s m args below meth c H1 locs1 cells slots Q (F0 m (pc + 3) ls rest)) : W p l e R s m args below meth c H locs cells slots Q (F0 m pc ls (v :: .ref a :: rest)) :=
  va_put hx hb hts hin ty0 hty hnm hown hK hW.1 hW.2.1 hW.2.2 q0 he hc k hk hlink (fun _ h => h) hfin hd hn hfit hl hdg (fun H1 locs1 h1 h2 h3 => kk H1 locs1 (by rw [← hw]; exact ⟨h1, h2, h3⟩))
theorem k_iald (hx : p.tables.exec = Jvm.exec) (hb : c.code = cc) (hK : va_K D cl tys s) (hP : va_P D cl ws H) (q0 t0 : Nat) {cA : ClassId} {n : Nat} (f : Nat → Int) (ha : ws[q0]? = some (a, .inl (cA, n, .inl (fun j => iI (f j))))) (ht : tys[t0]? = some (cA, .int)) {i : Int} (q : 0 ≤ i ∧ i < (n : Int) ∧ i < 2147483648) (hdg : decode cc pc = .ok (.iaload, 1))
    (kk : W p l e R s m args below meth c H locs cells slots Q (F0 m (pc + 1) ls (.int (iI (f i.toNat)) :: rest))) : W p l e R s m args below meth c H locs cells slots Q (F0 m pc ls (.int (iI i) :: .ref a :: rest)) := by
  have hr : iR i := ⟨by have := q.1; omega, q.2.2⟩
  exact va_iald hx hb hK hP q0 t0 ha ht (iI_in hr q.1 q.2.1) hdg (by rw [iI_clamp hr]; exact kk)
theorem k_zald (hx : p.tables.exec = Jvm.exec) (hb : c.code = cc) (hK : va_K D cl tys s) (hP : va_P D cl ws H) (q0 t0 : Nat) {cA : ClassId} {n : Nat} (f : Nat → Int) (ha : ws[q0]? = some (a, .inl (cA, n, .inl (fun j => iI (f j))))) (ht : tys[t0]? = some (cA, .boolean)) {i : Int} (q : 0 ≤ i ∧ i < (n : Int) ∧ i < 2147483648) (hdg : decode cc pc = .ok (.baload, 1))
    (kk : W p l e R s m args below meth c H locs cells slots Q (F0 m (pc + 1) ls (.int (iI (f i.toNat)) :: rest))) : W p l e R s m args below meth c H locs cells slots Q (F0 m pc ls (.int (iI i) :: .ref a :: rest)) := by
  have hr : iR i := ⟨by have := q.1; omega, q.2.2⟩
  exact va_zald hx hb hK hP q0 t0 ha ht (iI_in hr q.1 q.2.1) hdg (by rw [iI_clamp hr]; exact kk)
theorem k_lald (hx : p.tables.exec = Jvm.exec) (hb : c.code = cc) (hK : va_K D cl tys s) (hP : va_P D cl ws H) (q0 t0 : Nat) {cA : ClassId} {n : Nat} (f : Nat → Int) (ha : ws[q0]? = some (a, .inl (cA, n, .inr (.inl (fun j => lI (f j)))))) (ht : tys[t0]? = some (cA, .long)) {i : Int} (q : 0 ≤ i ∧ i < (n : Int) ∧ i < 2147483648) (hdg : decode cc pc = .ok (.laload, 1))
    (kk : W p l e R s m args below meth c H locs cells slots Q (F0 m (pc + 1) ls (.long (lI (f i.toNat)) :: rest))) : W p l e R s m args below meth c H locs cells slots Q (F0 m pc ls (.int (iI i) :: .ref a :: rest)) := by
  have hr : iR i := ⟨by have := q.1; omega, q.2.2⟩
  exact va_lald hx hb hK hP q0 t0 ha ht (iI_in hr q.1 q.2.1) hdg (by rw [iI_clamp hr]; exact kk)
theorem k_iast (hx : p.tables.exec = Jvm.exec) (hb : c.code = cc) (hK : va_K D cl tys s) (hW : kW D cl A H0 ws H locs) (q0 t0 : Nat) {cA : ClassId} {n : Nat} (f : Nat → Int) {ws' : va_W} (ha : ws[q0]? = some (a, .inl (cA, n, .inl (fun j => iI (f j))))) (ht : tys[t0]? = some (cA, .int)) {i z : Int} (q : 0 ≤ i ∧ i < (n : Int) ∧ i < 2147483648) (hw : ws.set q0 (a, .inl (cA, n, .inl (fun j => iI (va_up f i.toNat z j)))) = ws') (hdg : decode cc pc = .ok (.iastore, 1))
    (kk : ∀ (H1 : Heap) (locs1 : List Loc), kW D cl A H0 ws' H1 locs1 → W p l e R s m args below meth c H1 locs1 cells slots Q (F0 m (pc + 1) ls rest)) : W p l e R s m args below meth c H locs cells slots Q (F0 m pc ls (.int (iI z) :: .int (iI i) :: .ref a :: rest)) := by
  have hr : iR i := ⟨by have := q.1; omega, q.2.2⟩
  refine va_iast hx hb hK hW.1 hW.2.1 hW.2.2 q0 t0 ha ht (iI_in hr q.1 q.2.1) hdg (fun H1 locs1 h1 h2 h3 => kk H1 locs1 ?_)
  rw [iI_clamp hr, upd_iI] at h1 h2
  rw [← hw]
  exact ⟨h1, h2, h3⟩
theorem k_zast (hx : p.tables.exec = Jvm.exec) (hb : c.code = cc) (hK : va_K D cl tys s) (hW : kW D cl A H0 ws H locs) (q0 t0 : Nat) {cA : ClassId} {n : Nat} (f : Nat → Int) {ws' : va_W} (ha : ws[q0]? = some (a, .inl (cA, n, .inl (fun j => iI (f j))))) (ht : tys[t0]? = some (cA, .boolean)) {i z : Int} (q : 0 ≤ i ∧ i < (n : Int) ∧ i < 2147483648) (hz : z = 0 ∨ z = 1) (hw : ws.set q0 (a, .inl (cA, n, .inl (fun j => iI (va_up f i.toNat z j)))) = ws') (hdg : decode cc pc = .ok (.bastore, 1))
    (kk : ∀ (H1 : Heap) (locs1 : List Loc), kW D cl A H0 ws' H1 locs1 → W p l e R s m args below meth c H1 locs1 cells slots Q (F0 m (pc + 1) ls rest)) : W p l e R s m args below meth c H locs cells slots Q (F0 m pc ls (.int (iI z) :: .int (iI i) :: .ref a :: rest)) := by
  have hr : iR i := ⟨by have := q.1; omega, q.2.2⟩
  refine va_zast hx hb hK hW.1 hW.2.1 hW.2.2 q0 t0 ha ht (iI_in hr q.1 q.2.1) hdg (fun H1 locs1 h1 h2 h3 => kk H1 locs1 ?_)
  rw [iI_clamp hr, vnarZ hz, upd_iI] at h1 h2
  rw [← hw]
  exact ⟨h1, h2, h3⟩
theorem k_last (hx : p.tables.exec = Jvm.exec) (hb : c.code = cc) (hK : va_K D cl tys s) (hW : kW D cl A H0 ws H locs) (q0 t0 : Nat) {cA : ClassId} {n : Nat} (f : Nat → Int) {ws' : va_W} (ha : ws[q0]? = some (a, .inl (cA, n, .inr (.inl (fun j => lI (f j)))))) (ht : tys[t0]? = some (cA, .long)) {i z : Int} (q : 0 ≤ i ∧ i < (n : Int) ∧ i < 2147483648) (hw : ws.set q0 (a, .inl (cA, n, .inr (.inl (fun j => lI (va_up f i.toNat z j))))) = ws') (hdg : decode cc pc = .ok (.lastore, 1))
    (kk : ∀ (H1 : Heap) (locs1 : List Loc), kW D cl A H0 ws' H1 locs1 → W p l e R s m args below meth c H1 locs1 cells slots Q (F0 m (pc + 1) ls rest)) : W p l e R s m args below meth c H locs cells slots Q (F0 m pc ls (.long (lI z) :: .int (iI i) :: .ref a :: rest)) := by
  have hr : iR i := ⟨by have := q.1; omega, q.2.2⟩
  refine va_last hx hb hK hW.1 hW.2.1 hW.2.2 q0 t0 ha ht (iI_in hr q.1 q.2.1) hdg (fun H1 locs1 h1 h2 h3 => kk H1 locs1 ?_)
  rw [iI_clamp hr, updL_lI] at h1 h2
  rw [← hw]
  exact ⟨h1, h2, h3⟩
/-- longs compared, and the branch behind: the four forms -/
theorem kl_cmp (hx : p.tables.exec = Jvm.exec) (hb : c.code = cc) {x y : Int} (rx : lR x) (ry : lR y) (hd : decode cc pc = .ok (.lcmp, 1)) (k : W p l e R s m args below meth c H locs cells slots Q (F0 m (pc + 1) ls (.int (iI (if y < x then 1 else if x = y then 0 else -1)) :: rest))) : W p l e R s m args below meth c H locs cells slots Q (F0 m pc ls (.long (lI y) :: .long (lI x) :: rest)) := by
  refine W.lcmp hx hb hd ?_
  have h : lg_cmp (lI x) (lI y) = iI (if y < x then 1 else if x = y then 0 else -1) := by
    unfold lg_cmp
    by_cases h1 : y < x
    · rw [if_pos (show lI x > lI y from (lI_lt ry rx).mpr h1), if_pos h1]; decide
    · rw [if_neg (fun q => h1 ((lI_lt ry rx).mp q)), if_neg h1]
      by_cases h2 : x = y
      · rw [if_pos ((lI_eq rx ry).mpr h2), if_pos h2]; decide
      · rw [if_neg (fun q => h2 ((lI_eq rx ry).mp q)), if_neg h2]; decide
  rw [h]
  exact k
theorem kmx (hx : p.tables.exec = Jvm.exec) (hb : c.code = cc) (hml : c.maxLocals = ls.size) {own : String} {index : Nat} (hown : s.vm.findClass own = some m.cls) (hlink : (Cond.methodLink own index Lib.Math.max.name).before args s = true) (hstat : (Cond.static Lib.Math.max.name).before args s = true) (hini : (Cond.initialized "java/lang/Math").before args s = true) (hcode : (Cond.code Lib.Math.max.name Lib.Math.max.code 2 (some .int)).before args s = true)
    (hR : 1 ≤ R.frames ∧ (rest.map fun v => v.category).sum + 13 ≤ R.locals) (hc : cells ≤ R.cells ∧ slots ≤ R.slots) {x y : Int} (rx : iR x) (ry : iR y) (hdg : decode cc pc = .ok (.invokestatic index, 3))
    (kk : W p l e R s m args below meth c H locs cells slots Q (F0 m (pc + 3) ls (.int (iI (if x < y then y else x)) :: rest))) : W p l e R s m args below meth c H locs cells slots Q (F0 m pc ls (.int (iI y) :: .int (iI x) :: rest)) := by
  refine va_mmax hx hb hml hown hlink hstat hini hcode hR.1 hR.2 hc.1 hc.2 hdg ?_
  have h : (if iI x < iI y then iI y else iI x) = iI (if x < y then y else x) := by
    by_cases h1 : x < y
    · rw [if_pos ((iI_lt rx ry).mpr h1), if_pos h1]
    · rw [if_neg (fun q => h1 ((iI_lt rx ry).mp q)), if_neg h1]
  rw [h]
  exact kk
theorem kmn (hx : p.tables.exec = Jvm.exec) (hb : c.code = cc) (hml : c.maxLocals = ls.size) {own : String} {index : Nat} (hown : s.vm.findClass own = some m.cls) (hlink : (Cond.methodLink own index Lib.Math.min.name).before args s = true) (hstat : (Cond.static Lib.Math.min.name).before args s = true) (hini : (Cond.initialized "java/lang/Math").before args s = true) (hcode : (Cond.code Lib.Math.min.name Lib.Math.min.code 2 (some .int)).before args s = true)
    (hR : 1 ≤ R.frames ∧ (rest.map fun v => v.category).sum + 13 ≤ R.locals) (hc : cells ≤ R.cells ∧ slots ≤ R.slots) {x y : Int} (rx : iR x) (ry : iR y) (hdg : decode cc pc = .ok (.invokestatic index, 3))
    (kk : W p l e R s m args below meth c H locs cells slots Q (F0 m (pc + 3) ls (.int (iI (if y < x then y else x)) :: rest))) : W p l e R s m args below meth c H locs cells slots Q (F0 m pc ls (.int (iI y) :: .int (iI x) :: rest)) := by
  refine va_mmin hx hb hml hown hlink hstat hini hcode hR.1 hR.2 hc.1 hc.2 hdg ?_
  have h : (if iI y < iI x then iI y else iI x) = iI (if y < x then y else x) := by
    by_cases h1 : y < x
    · rw [if_pos ((iI_lt ry rx).mpr h1), if_pos h1]
    · rw [if_neg (fun q => h1 ((iI_lt ry rx).mp q)), if_neg h1]
  rw [h]
  exact kk
theorem kF (hA : ∀ q, s.heap.size ≤ q → A q) (hW : kW D cl A s.heap ws H locs) : ∀ q, va_A ws H.size q → A q := by
  rintro q (⟨k, e, h⟩ | h)
  · exact hW.2.1.2 k (q, e) h
  · exact hA q (Nat.le_trans hW.2.2.1 h)
theorem kPre {ns : List (String × Nat × MethodName × String)} {av : List Value} (hK : va_K D cl tys s) (hN : kNw ns s) (hW : kW D cl A s.heap ws H locs) : ∀ U : State, U.heap = H → s.WarmedH U.vm → kPc D cl tys ws ns H.size av av.toArray U := fun U hU hWm => ⟨rfl, by rw [hU], by rw [hU]; exact hW.1, va_K.moved hWm.alike hK, hW.2.1.weaken (fun _ _ _ _ => trivial), hN.warm hWm⟩
theorem kPreP {ns : List (String × Nat × MethodName × String)} {av : List Value} (hK : va_K D cl tys s) (hN : kNw ns s) (hP : va_P D cl ws H) : ∀ U : State, U.heap = H → s.WarmedH U.vm → kPp D cl tys ws ns av av.toArray U := fun U hU hWm => ⟨rfl, by rw [hU]; exact hP, va_K.moved hWm.alike hK, hN.warm hWm⟩
section KC
variable {y : MethodName} {bytes : ByteArray} {maxL nL n index q0 ci : Nat} {ret : Option FieldType} {wsy Ts : List Cond} {rm : Room} {own C : String} {b : Addr} {As st : List Value} {w : kM → va_W} {σ : kM} {ns : List (String × Nat × MethodName × String)} {fs : List Value} {T : u_T} {N : Nat} {host : String}
/-- behind a call that answers an int -/
theorem kc_ki {P : Int → kM → Prop} {a0 : Array Value} (hr : va_Run p l e R s m args below meth c H locs cells slots 0 0 (F0 m pc ls st) rest (kQi D cl w P (va_A (w σ) H.size) a0) (va_A (w σ) H.size)) (hA : ∀ q, s.heap.size ≤ q → A q) (hW : kW D cl A s.heap (w σ) H locs) (hwa : ∀ σ' : kM, (w σ).map Prod.fst = (w σ').map Prod.fst)
    (kk : ∀ (r : Int) (σ' : kM) (H1 : Heap) (locs1 : List Loc), P r σ' → kW D cl A s.heap (w σ') H1 locs1 → W p l e R s m args below meth c H1 locs1 cells slots Q (F0 m (pc + 3) ls (.int (iI r) :: rest))) : W p l e R s m args below meth c H locs cells slots Q (F0 m pc ls st) := by
  refine va_calli hr hW.2.2 (fun q _ h => kF hA hW q h) (kF hA hW) (fun r u t H1 locs1 ht _ hw hB _ _ hS => ?_)
  obtain ⟨rfl, hp⟩ := hw
  rw [ht] at hB
  exact kk u.1 u.2 H1 locs1 hp ⟨hB, kW_D hW.2.1 (hwa u.2), hS⟩
theorem kc_kv {P : kM → Prop} {a0 : Array Value} (hr : va_Run p l e R s m args below meth c H locs cells slots 0 0 (F0 m pc ls st) rest (kQv D cl w P (va_A (w σ) H.size) a0) (va_A (w σ) H.size)) (hA : ∀ q, s.heap.size ≤ q → A q) (hW : kW D cl A s.heap (w σ) H locs) (hwa : ∀ σ' : kM, (w σ).map Prod.fst = (w σ').map Prod.fst)
    (kk : ∀ (σ' : kM) (H1 : Heap) (locs1 : List Loc), P σ' → kW D cl A s.heap (w σ') H1 locs1 → W p l e R s m args below meth c H1 locs1 cells slots Q (F0 m (pc + 3) ls rest)) : W p l e R s m args below meth c H locs cells slots Q (F0 m pc ls st) := by
  refine va_callv hr hW.2.2 (fun q _ h => kF hA hW q h) (kF hA hW) (fun u t H1 locs1 ht _ hw hB _ _ hS => ?_)
  rw [ht] at hB
  exact kk u H1 locs1 hw ⟨hB, kW_D hW.2.1 (hwa u), hS⟩
theorem kc_vi (S : CallFix p m c cc nL s args Ts own) {P : Int → kM → Prop} (hM : kMi l y wsy rm D cl tys w ns σ (.ref b :: As) P) (cw : CallW R s args own C index y bytes maxL ret wsy rm 0 0 n) (hK : va_K D cl tys s) (hN : kNw ns s) (hA : ∀ q, s.heap.size ≤ q → A q) (hW : kW D cl A s.heap (w σ) H locs) (hwa : ∀ σ' : kM, (w σ).map Prod.fst = (w σ').map Prod.fst)
    (hrc : cl[ci]? = some (C, T, N)) (hre : (w σ)[q0]? = some (b, .inr (ci, fs))) (hn : As.length = n) (hsize : ls.size = nL) (hst : st = As.reverse ++ .ref b :: rest) (hcat : (rest.map fun v => v.category).sum ≤ 8) (hdg : decode cc pc = .ok (.invokevirtual index, 3)) (hf : cells ≤ R.cells ∧ slots ≤ R.slots)
    (kk : ∀ (r : Int) (σ' : kM) (H1 : Heap) (locs1 : List Loc), P r σ' → kW D cl A s.heap (w σ') H1 locs1 → W p l e R s m args below meth c H1 locs1 cells slots Q (F0 m (pc + 3) ls (.int (iI r) :: rest))) : W p l e R s m args below meth c H locs cells slots Q (F0 m pc ls st) :=
  kc_ki (va_runV (As := As) (rest := rest) S (hM H.size) cw ⟨kPc.blind, va_recv hK hW.1 hrc hre, kPre hK hN hW⟩ rfl hn hsize hst (lv_room hcat) hdg hf) hA hW hwa kk
theorem kc_vv (S : CallFix p m c cc nL s args Ts own) {P : kM → Prop} (hM : kMv l y wsy rm D cl tys w ns σ (.ref b :: As) P) (cw : CallW R s args own C index y bytes maxL ret wsy rm 0 0 n) (hK : va_K D cl tys s) (hN : kNw ns s) (hA : ∀ q, s.heap.size ≤ q → A q) (hW : kW D cl A s.heap (w σ) H locs) (hwa : ∀ σ' : kM, (w σ).map Prod.fst = (w σ').map Prod.fst)
    (hrc : cl[ci]? = some (C, T, N)) (hre : (w σ)[q0]? = some (b, .inr (ci, fs))) (hn : As.length = n) (hsize : ls.size = nL) (hst : st = As.reverse ++ .ref b :: rest) (hcat : (rest.map fun v => v.category).sum ≤ 8) (hdg : decode cc pc = .ok (.invokevirtual index, 3)) (hf : cells ≤ R.cells ∧ slots ≤ R.slots)
    (kk : ∀ (σ' : kM) (H1 : Heap) (locs1 : List Loc), P σ' → kW D cl A s.heap (w σ') H1 locs1 → W p l e R s m args below meth c H1 locs1 cells slots Q (F0 m (pc + 3) ls rest)) : W p l e R s m args below meth c H locs cells slots Q (F0 m pc ls st) :=
  kc_kv (va_runV (As := As) (rest := rest) S (hM H.size) cw ⟨kPc.blind, va_recv hK hW.1 hrc hre, kPre hK hN hW⟩ rfl hn hsize hst (lv_room hcat) hdg hf) hA hW hwa kk
theorem kc_si (S : CallFix p m c cc nL s args Ts own) {P : Int → kM → Prop} (hM : kMi l y wsy rm D cl tys w ns σ As P) (cw : CallB R s args own index y bytes maxL ret wsy rm 0 0 n ∧ (Cond.static y).before args s = true) (hK : va_K D cl tys s) (hN : kNw ns s) (hA : ∀ q, s.heap.size ≤ q → A q) (hW : kW D cl A s.heap (w σ) H locs) (hwa : ∀ σ' : kM, (w σ).map Prod.fst = (w σ').map Prod.fst)
    (hn : As.length = n) (hsize : ls.size = nL) (hst : st = As.reverse ++ rest) (hcat : (rest.map fun v => v.category).sum ≤ 8) (hdg : decode cc pc = .ok (.invokestatic index, 3)) (hf : cells ≤ R.cells ∧ slots ≤ R.slots)
    (kk : ∀ (r : Int) (σ' : kM) (H1 : Heap) (locs1 : List Loc), P r σ' → kW D cl A s.heap (w σ') H1 locs1 → W p l e R s m args below meth c H1 locs1 cells slots Q (F0 m (pc + 3) ls (.int (iI r) :: rest))) : W p l e R s m args below meth c H locs cells slots Q (F0 m pc ls st) :=
  kc_ki (va_runS (As := As) (rest := rest) S (hM H.size) cw ⟨kPc.blind, kPre hK hN hW⟩ rfl hn hsize hst (lv_room hcat) hdg hf) hA hW hwa kk
theorem kc_ni (S : CallFix p m c cc nL s args Ts own) {P : Int → kM → Prop} (hM : kMi l y wsy rm D cl tys w ns σ As P) (cw : va_CN R s args own index y host bytes maxL ret wsy rm 0 0 n ∧ (Cond.static y).before args s = true ∧ True) (hK : va_K D cl tys s) (hN : kNw ns s) (hA : ∀ q, s.heap.size ≤ q → A q) (hW : kW D cl A s.heap (w σ) H locs) (hwa : ∀ σ' : kM, (w σ).map Prod.fst = (w σ').map Prod.fst)
    (hn : As.length = n) (hsize : ls.size = nL) (hst : st = As.reverse ++ rest) (hcat : (rest.map fun v => v.category).sum ≤ 8) (hdg : decode cc pc = .ok (.invokestatic index, 3)) (hf : cells ≤ R.cells ∧ slots ≤ R.slots)
    (kk : ∀ (r : Int) (σ' : kM) (H1 : Heap) (locs1 : List Loc), P r σ' → kW D cl A s.heap (w σ') H1 locs1 → W p l e R s m args below meth c H1 locs1 cells slots Q (F0 m (pc + 3) ls (.int (iI r) :: rest))) : W p l e R s m args below meth c H locs cells slots Q (F0 m pc ls st) :=
  kc_ki (va_runSN (As := As) (rest := rest) S (hM H.size) cw ⟨kPc.blind, kPre hK hN hW⟩ rfl hn hsize hst (lv_room hcat) hdg hf) hA hW hwa kk
theorem kc_kp {P : Int → Prop} {a0 : Array Value} (hr : va_Run p l e R s m args below meth c H locs cells slots 0 0 (F0 m pc ls st) rest (kQp P a0) (fun _ => False))
    (kk : ∀ r : Int, P r → W p l e R s m args below meth c H locs cells slots Q (F0 m (pc + 3) ls (.int (iI r) :: rest))) : W p l e R s m args below meth c H locs cells slots Q (F0 m pc ls st) := by
  intro T hT X
  obtain ⟨v, st₀, t, T', L, h0, X', hL, e1, e2, ⟨r, hv, hp, hh⟩, sg⟩ := hr T hT X
  cases hv
  obtain ⟨t2, a1, b1⟩ := kk r hp T' (by rw [e1, hh, h0]) (Stand.forget X' (fun q h => (hL q h).elim))
  exact ⟨t2, sg t2 a1, b1⟩
theorem kc_vp (S : CallFix p m c cc nL s args Ts own) {P : Int → Prop} (hM : kMp l y wsy rm D cl tys w ns σ (.ref b :: As) P) (cw : CallW R s args own C index y bytes maxL ret wsy rm 0 0 n) (hK : va_K D cl tys s) (hN : kNw ns s) (hP : va_P D cl (w σ) H)
    (hrc : cl[ci]? = some (C, T, N)) (hre : (w σ)[q0]? = some (b, .inr (ci, fs))) (hn : As.length = n) (hsize : ls.size = nL) (hst : st = As.reverse ++ .ref b :: rest) (hcat : (rest.map fun v => v.category).sum ≤ 8) (hdg : decode cc pc = .ok (.invokevirtual index, 3)) (hf : cells ≤ R.cells ∧ slots ≤ R.slots)
    (kk : ∀ r : Int, P r → W p l e R s m args below meth c H locs cells slots Q (F0 m (pc + 3) ls (.int (iI r) :: rest))) : W p l e R s m args below meth c H locs cells slots Q (F0 m pc ls st) :=
  kc_kp (va_runV (As := As) (rest := rest) S hM cw ⟨kPp.blind, va_recv hK hP hrc hre, kPreP hK hN hP⟩ rfl hn hsize hst (lv_room hcat) hdg hf) kk
theorem kc_sp (S : CallFix p m c cc nL s args Ts own) {P : Int → Prop} (hM : kMp l y wsy rm D cl tys w ns σ As P) (cw : CallB R s args own index y bytes maxL ret wsy rm 0 0 n ∧ (Cond.static y).before args s = true) (hK : va_K D cl tys s) (hN : kNw ns s) (hP : va_P D cl (w σ) H)
    (hn : As.length = n) (hsize : ls.size = nL) (hst : st = As.reverse ++ rest) (hcat : (rest.map fun v => v.category).sum ≤ 8) (hdg : decode cc pc = .ok (.invokestatic index, 3)) (hf : cells ≤ R.cells ∧ slots ≤ R.slots)
    (kk : ∀ r : Int, P r → W p l e R s m args below meth c H locs cells slots Q (F0 m (pc + 3) ls (.int (iI r) :: rest))) : W p l e R s m args below meth c H locs cells slots Q (F0 m pc ls st) :=
  kc_kp (va_runS (As := As) (rest := rest) S hM cw ⟨kPp.blind, kPreP hK hN hP⟩ rfl hn hsize hst (lv_room hcat) hdg hf) kk
theorem kc_np (S : CallFix p m c cc nL s args Ts own) {P : Int → Prop} (hM : kMp l y wsy rm D cl tys w ns σ As P) (cw : va_CN R s args own index y host bytes maxL ret wsy rm 0 0 n ∧ (Cond.static y).before args s = true ∧ True) (hK : va_K D cl tys s) (hN : kNw ns s) (hP : va_P D cl (w σ) H)
    (hn : As.length = n) (hsize : ls.size = nL) (hst : st = As.reverse ++ rest) (hcat : (rest.map fun v => v.category).sum ≤ 8) (hdg : decode cc pc = .ok (.invokestatic index, 3)) (hf : cells ≤ R.cells ∧ slots ≤ R.slots)
    (kk : ∀ r : Int, P r → W p l e R s m args below meth c H locs cells slots Q (F0 m (pc + 3) ls (.int (iI r) :: rest))) : W p l e R s m args below meth c H locs cells slots Q (F0 m pc ls st) :=
  kc_kp (va_runSN (As := As) (rest := rest) S hM cw ⟨kPp.blind, kPreP hK hN hP⟩ rfl hn hsize hst (lv_room hcat) hdg hf) kk
end KC
end KX
end
