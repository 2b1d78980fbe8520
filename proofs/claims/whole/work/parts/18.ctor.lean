set_option maxRecDepth 20000 in
theorem mw_22 : Jvm.Cond.methodLink "PeelRibbons" (1 : Nat) ({ cls := "java/lang/Object", name := "<init>", desc := "()V" } : Jvm.MethodName) ∈ gG := gG_of (List.mem_of_getElem? (i := 46) rfl) rfl
set_option maxRecDepth 20000 in
theorem mw_23 : Jvm.Cond.instanceMethod ({ cls := "java/lang/Object", name := "<init>", desc := "()V" } : Jvm.MethodName) ∈ gG := gG_of (List.mem_of_getElem? (i := 47) rfl) rfl
set_option maxRecDepth 20000 in
theorem mw_25 : Jvm.Cond.classLink "PeelRibbons" (7 : Nat) "PeelRibbons$Slices" ∈ gG := gG_of (List.mem_of_getElem? (i := 49) rfl) rfl
set_option maxRecDepth 20000 in
theorem mw_26 : Jvm.Cond.instantiable "PeelRibbons$Slices" (9 : Nat) ∈ gG := gG_of (List.mem_of_getElem? (i := 50) rfl) rfl
set_option maxRecDepth 20000 in
theorem mw_27 : Jvm.Cond.methodLink "PeelRibbons" (11 : Nat) ({ cls := "PeelRibbons", name := "nearestOf", desc := "(III)I" } : Jvm.MethodName) ∈ gG := gG_of (List.mem_of_getElem? (i := 51) rfl) rfl
set_option maxRecDepth 20000 in
theorem mw_28 : Jvm.Cond.static ({ cls := "PeelRibbons", name := "nearestOf", desc := "(III)I" } : Jvm.MethodName) ∈ gG := gG_of (List.mem_of_getElem? (i := 52) rfl) rfl
set_option maxRecDepth 20000 in
theorem mw_36 : Jvm.Cond.methodLink "PeelRibbons" (15 : Nat) ({ cls := "PeelRibbons$Slices", name := "<init>", desc := "(II)V" } : Jvm.MethodName) ∈ gG := gG_of (List.mem_of_getElem? (i := 60) rfl) rfl
set_option maxRecDepth 20000 in
theorem mw_37 : Jvm.Cond.instanceMethod ({ cls := "PeelRibbons$Slices", name := "<init>", desc := "(II)V" } : Jvm.MethodName) ∈ gG := gG_of (List.mem_of_getElem? (i := 61) rfl) rfl
set_option maxRecDepth 20000 in
theorem mw_39 : Jvm.Cond.methodLink "PeelRibbons$Slices" (1 : Nat) ({ cls := "java/lang/Object", name := "<init>", desc := "()V" } : Jvm.MethodName) ∈ gG := gG_of (List.mem_of_getElem? (i := 63) rfl) rfl
set_option maxRecDepth 20000 in
theorem mw_40 : Jvm.Cond.methodLink "PeelRibbons$Slices" (16 : Nat) ({ cls := "java/lang/Math", name := "max", desc := "(II)I" } : Jvm.MethodName) ∈ gG := gG_of (List.mem_of_getElem? (i := 64) rfl) rfl
set_option maxRecDepth 20000 in
theorem mw_69 : Jvm.Cond.arrayClass Jvm.ClassFile.FieldType.boolean ∈ gG := gG_of (List.mem_of_getElem? (i := 93) rfl) rfl
set_option maxRecDepth 20000 in
theorem mw_70 : Jvm.Cond.arrayClass Jvm.ClassFile.FieldType.int ∈ gG := gG_of (List.mem_of_getElem? (i := 94) rfl) rfl
set_option maxRecDepth 20000 in
theorem mw_71 : Jvm.Cond.classLink "PeelRibbons" (22 : Nat) "PeelRibbons$Axes" ∈ gG := gG_of (List.mem_of_getElem? (i := 95) rfl) rfl
set_option maxRecDepth 20000 in
theorem mw_72 : Jvm.Cond.instantiable "PeelRibbons$Axes" (6 : Nat) ∈ gG := gG_of (List.mem_of_getElem? (i := 96) rfl) rfl
set_option maxRecDepth 20000 in
theorem mw_73 : Jvm.Cond.methodLink "PeelRibbons" (24 : Nat) ({ cls := "PeelRibbons$Axes", name := "<init>", desc := "(LPeelRibbons$Slices;)V" } : Jvm.MethodName) ∈ gG := gG_of (List.mem_of_getElem? (i := 97) rfl) rfl
set_option maxRecDepth 20000 in
theorem mw_74 : Jvm.Cond.instanceMethod ({ cls := "PeelRibbons$Axes", name := "<init>", desc := "(LPeelRibbons$Slices;)V" } : Jvm.MethodName) ∈ gG := gG_of (List.mem_of_getElem? (i := 98) rfl) rfl
set_option maxRecDepth 20000 in
theorem mw_76 : Jvm.Cond.methodLink "PeelRibbons$Axes" (1 : Nat) ({ cls := "java/lang/Object", name := "<init>", desc := "()V" } : Jvm.MethodName) ∈ gG := gG_of (List.mem_of_getElem? (i := 100) rfl) rfl
set_option maxRecDepth 20000 in
theorem mw_77 : Jvm.Cond.methodLink "PeelRibbons$Axes" (21 : Nat) ({ cls := "PeelRibbons$Slices", name := "side", desc := "()I" } : Jvm.MethodName) ∈ gG := gG_of (List.mem_of_getElem? (i := 101) rfl) rfl
set_option maxRecDepth 20000 in
theorem mw_78 : Jvm.Cond.instanceMethod ({ cls := "PeelRibbons$Slices", name := "side", desc := "()I" } : Jvm.MethodName) ∈ gG := gG_of (List.mem_of_getElem? (i := 102) rfl) rfl
set_option maxRecDepth 20000 in
theorem mw_79 : Jvm.Cond.selects "PeelRibbons$Slices" ({ cls := "PeelRibbons$Slices", name := "side", desc := "()I" } : Jvm.MethodName) ({ cls := "PeelRibbons$Slices", name := "side", desc := "()I" } : Jvm.MethodName) ∈ gG := gG_of (List.mem_of_getElem? (i := 103) rfl) rfl
set_option maxRecDepth 20000 in
theorem mw_81 : Jvm.Cond.methodLink "PeelRibbons$Axes" (30 : Nat) ({ cls := "PeelRibbons$Slices", name := "parts", desc := "()I" } : Jvm.MethodName) ∈ gG := gG_of (List.mem_of_getElem? (i := 105) rfl) rfl
set_option maxRecDepth 20000 in
theorem mw_82 : Jvm.Cond.instanceMethod ({ cls := "PeelRibbons$Slices", name := "parts", desc := "()I" } : Jvm.MethodName) ∈ gG := gG_of (List.mem_of_getElem? (i := 106) rfl) rfl
set_option maxRecDepth 20000 in
theorem mw_83 : Jvm.Cond.selects "PeelRibbons$Slices" ({ cls := "PeelRibbons$Slices", name := "parts", desc := "()I" } : Jvm.MethodName) ({ cls := "PeelRibbons$Slices", name := "parts", desc := "()I" } : Jvm.MethodName) ∈ gG := gG_of (List.mem_of_getElem? (i := 107) rfl) rfl
set_option maxRecDepth 20000 in
theorem mw_104 : Jvm.Cond.classLink "PeelRibbons" (31 : Nat) "PeelRibbons$Ribbon" ∈ gG := gG_of (List.mem_of_getElem? (i := 128) rfl) rfl
set_option maxRecDepth 20000 in
theorem mw_105 : Jvm.Cond.instantiable "PeelRibbons$Ribbon" (4 : Nat) ∈ gG := gG_of (List.mem_of_getElem? (i := 129) rfl) rfl
set_option maxRecDepth 20000 in
theorem mw_107 : Jvm.Cond.instanceMethod ({ cls := "PeelRibbons$Ribbon", name := "<init>", desc := "()V" } : Jvm.MethodName) ∈ gG := gG_of (List.mem_of_getElem? (i := 131) rfl) rfl
set_option maxRecDepth 20000 in
theorem mw_109 : Jvm.Cond.methodLink "PeelRibbons$Ribbon" (3 : Nat) ({ cls := "java/lang/Object", name := "<init>", desc := "()V" } : Jvm.MethodName) ∈ gG := gG_of (List.mem_of_getElem? (i := 133) rfl) rfl
set_option maxRecDepth 20000 in
theorem mw_123 : Jvm.Cond.classLink "PeelRibbons" (38 : Nat) "PeelRibbons$Faults" ∈ gG := gG_of (List.mem_of_getElem? (i := 147) rfl) rfl
set_option maxRecDepth 20000 in
theorem mw_124 : Jvm.Cond.instantiable "PeelRibbons$Faults" (4 : Nat) ∈ gG := gG_of (List.mem_of_getElem? (i := 148) rfl) rfl
set_option maxRecDepth 20000 in
theorem mw_126 : Jvm.Cond.instanceMethod ({ cls := "PeelRibbons$Faults", name := "<init>", desc := "()V" } : Jvm.MethodName) ∈ gG := gG_of (List.mem_of_getElem? (i := 150) rfl) rfl
set_option maxRecDepth 20000 in
theorem mw_128 : Jvm.Cond.methodLink "PeelRibbons$Faults" (1 : Nat) ({ cls := "java/lang/Object", name := "<init>", desc := "()V" } : Jvm.MethodName) ∈ gG := gG_of (List.mem_of_getElem? (i := 152) rfl) rfl
set_option maxRecDepth 20000 in
theorem mw_142 : Jvm.Cond.classLink "PeelRibbons" (45 : Nat) "PeelRibbons$Leaves" ∈ gG := gG_of (List.mem_of_getElem? (i := 166) rfl) rfl
set_option maxRecDepth 20000 in
theorem mw_143 : Jvm.Cond.instantiable "PeelRibbons$Leaves" (4 : Nat) ∈ gG := gG_of (List.mem_of_getElem? (i := 167) rfl) rfl
set_option maxRecDepth 20000 in
theorem mw_145 : Jvm.Cond.instanceMethod ({ cls := "PeelRibbons$Leaves", name := "<init>", desc := "()V" } : Jvm.MethodName) ∈ gG := gG_of (List.mem_of_getElem? (i := 169) rfl) rfl
set_option maxRecDepth 20000 in
theorem mw_147 : Jvm.Cond.methodLink "PeelRibbons$Leaves" (1 : Nat) ({ cls := "java/lang/Object", name := "<init>", desc := "()V" } : Jvm.MethodName) ∈ gG := gG_of (List.mem_of_getElem? (i := 171) rfl) rfl
set_option maxRecDepth 20000 in
theorem mw_161 : Jvm.Cond.classLink "PeelRibbons" (52 : Nat) "PeelRibbons$Clipping" ∈ gG := gG_of (List.mem_of_getElem? (i := 185) rfl) rfl
set_option maxRecDepth 20000 in
theorem mw_162 : Jvm.Cond.instantiable "PeelRibbons$Clipping" (10 : Nat) ∈ gG := gG_of (List.mem_of_getElem? (i := 186) rfl) rfl
set_option maxRecDepth 20000 in
theorem mw_164 : Jvm.Cond.instanceMethod ({ cls := "PeelRibbons$Clipping", name := "<init>", desc := "()V" } : Jvm.MethodName) ∈ gG := gG_of (List.mem_of_getElem? (i := 188) rfl) rfl
set_option maxRecDepth 20000 in
theorem mw_166 : Jvm.Cond.methodLink "PeelRibbons$Clipping" (5 : Nat) ({ cls := "java/lang/Object", name := "<init>", desc := "()V" } : Jvm.MethodName) ∈ gG := gG_of (List.mem_of_getElem? (i := 190) rfl) rfl
set_option maxRecDepth 20000 in
theorem mw_198 : Jvm.Cond.arrayClass Jvm.ClassFile.FieldType.long ∈ gG := gG_of (List.mem_of_getElem? (i := 222) rfl) rfl
set_option maxRecDepth 20000 in
theorem mw_199 : Jvm.Cond.classLink "PeelRibbons" (59 : Nat) "PeelRibbons$KnifeRows" ∈ gG := gG_of (List.mem_of_getElem? (i := 223) rfl) rfl
set_option maxRecDepth 20000 in
theorem mw_200 : Jvm.Cond.instantiable "PeelRibbons$KnifeRows" (3 : Nat) ∈ gG := gG_of (List.mem_of_getElem? (i := 224) rfl) rfl
set_option maxRecDepth 20000 in
theorem mw_202 : Jvm.Cond.instanceMethod ({ cls := "PeelRibbons$KnifeRows", name := "<init>", desc := "()V" } : Jvm.MethodName) ∈ gG := gG_of (List.mem_of_getElem? (i := 226) rfl) rfl
set_option maxRecDepth 20000 in
theorem mw_204 : Jvm.Cond.methodLink "PeelRibbons$KnifeRows" (3 : Nat) ({ cls := "java/lang/Object", name := "<init>", desc := "()V" } : Jvm.MethodName) ∈ gG := gG_of (List.mem_of_getElem? (i := 228) rfl) rfl
abbrev z0 : Nat → Int := fun _ => 0
def sN (n : Int) : Int := if 1 < n - 1 then n - 1 else 1
def sR (n d : Int) : Int := (d * (sN n)) + 1
def fS (v : Int) : Nat → Int := fun j => if (j : Int) < v then 1 else 0
theorem fS_0 : fS 0 = z0 := by funext j; simp [fS, z0]
theorem fS_s {v : Int} (h : 0 ≤ v) : va_up (fS v) v.toNat 1 = fS (v + 1) := by
  funext j
  by_cases q : j = v.toNat
  · subst q; simp [va_up, fS]; omega
  · simp only [va_up, if_neg q, fS]
    by_cases c : (j : Int) < v
    · rw [if_pos c, if_pos (by omega)]
    · rw [if_neg c, if_neg (by omega)]
def cl1 (x hi : Int) : Int := if 1 < (if x < hi then x else hi) then (if x < hi then x else hi) else 1
theorem cl1_ok {x : Int} (hx : iR x) (hi : Int) (hh : iR hi) (h1 : 1 ≤ hi) {nn : Nat → Nat} {σ : kM} : wp_P_nearestOf nn σ x 1 hi (fun r => r = cl1 x hi) := by
  unfold wp_P_nearestOf cl1
  refine ⟨hh, hx, by constructor <;> decide, ?_, rfl⟩
  obtain ⟨a1, a2⟩ := hx
  obtain ⟨b1, b2⟩ := hh
  split
  · exact ⟨a1, a2⟩
  · exact ⟨b1, b2⟩
theorem cl1_in (x hi : Int) (h1 : 1 ≤ hi) : 1 ≤ cl1 x hi ∧ cl1 x hi ≤ hi := by
  unfold cl1
  split
  · split
    · omega
    · omega
  · omega
theorem sN_in {n : Int} (h : 1 ≤ n ∧ n ≤ 4) : 1 ≤ sN n ∧ sN n ≤ 3 := by unfold sN; split <;> omega
theorem sR_in {n d : Int} (h : 1 ≤ n ∧ n ≤ 4) (h2 : 1 ≤ d ∧ d ≤ 10) : 2 ≤ sR n d ∧ sR n d ≤ 31 := by
  have := sN_in h
  unfold sR
  have hs : sN n = 1 ∨ sN n = 2 ∨ sN n = 3 := by omega
  rcases hs with e | e | e <;> rw [e] <;> omega
theorem b8_in {n d : Int} (h : 1 ≤ n ∧ n ≤ 4) (h2 : 1 ≤ d ∧ d ≤ 10) : 0 ≤ (n * (d + 2)) * (d + 2) ∧ (n * (d + 2)) * (d + 2) ≤ 576 := by
  have hd : d = 1 ∨ d = 2 ∨ d = 3 ∨ d = 4 ∨ d = 5 ∨ d = 6 ∨ d = 7 ∨ d = 8 ∨ d = 9 ∨ d = 10 := by omega
  rcases hd with rfl | rfl | rfl | rfl | rfl | rfl | rfl | rfl | rfl | rfl <;> omega
theorem b9_in {n d : Int} (h : 1 ≤ n ∧ n ≤ 4) (h2 : 1 ≤ d ∧ d ≤ 10) : 0 ≤ (n * sR n d) * sR n d ∧ (n * sR n d) * sR n d ≤ 3844 := by
  have hr := sR_in h h2
  have h4 : n = 1 ∨ n = 2 ∨ n = 3 ∨ n = 4 := by omega
  generalize sR n d = r at hr ⊢
  have hq : 0 ≤ r * r ∧ r * r ≤ 961 := ⟨Int.mul_nonneg (by omega) (by omega), by
    have := Int.mul_le_mul hr.2 hr.2 (by omega) (by omega)
    simpa using this⟩
  have e : (n * r) * r = n * (r * r) := Int.mul_assoc n r r
  rw [e]
  rcases h4 with rfl | rfl | rfl | rfl <;> omega
set_option maxRecDepth 20000 in
theorem k_obj : Cond.code Lib.objectInit ⟨#[0xb1]⟩ 1 none ∈ gG := gG_of (List.mem_of_getElem? (i := 48) rfl) rfl
theorem fs_P : ∀ j, j < 7 → defaultValue (ty_P j) = vp_V [.null, .null, .null, .null, .null, .null, .null] j := by
  intro j hj
  match j, hj with
  | 0, _ => rfl
  | 1, _ => rfl
  | 2, _ => rfl
  | 3, _ => rfl
  | 4, _ => rfl
  | 5, _ => rfl
  | 6, _ => rfl
  | k + 7, h => exact absurd h (by omega)
theorem fs_A : ∀ j, j < 6 → defaultValue (ty_A j) = vp_V [.null, .int (iI 0), .int (iI 0), .null, .int (iI 0), .int (iI 0)] j := by
  intro j hj
  match j, hj with
  | 0, _ => rfl
  | 1, _ => rfl
  | 2, _ => rfl
  | 3, _ => rfl
  | 4, _ => rfl
  | 5, _ => rfl
  | k + 6, h => exact absurd h (by omega)
theorem fs_C : ∀ j, j < 10 → defaultValue (ty_C j) = vp_V [.null, .null, .null, .null, .null, .int (iI 0), .int (iI 0), .int (iI 0), .int (iI 0), .int (iI 0)] j := by
  intro j hj
  match j, hj with
  | 0, _ => rfl
  | 1, _ => rfl
  | 2, _ => rfl
  | 3, _ => rfl
  | 4, _ => rfl
  | 5, _ => rfl
  | 6, _ => rfl
  | 7, _ => rfl
  | 8, _ => rfl
  | 9, _ => rfl
  | k + 10, h => exact absurd h (by omega)
theorem fs_F : ∀ j, j < 4 → defaultValue (ty_F j) = vp_V [.null, .null, .null, .int (iI 0)] j := by
  intro j hj
  match j, hj with
  | 0, _ => rfl
  | 1, _ => rfl
  | 2, _ => rfl
  | 3, _ => rfl
  | k + 4, h => exact absurd h (by omega)
theorem fs_K : ∀ j, j < 3 → defaultValue (ty_K j) = vp_V [.null, .null, .int (iI 0)] j := by
  intro j hj
  match j, hj with
  | 0, _ => rfl
  | 1, _ => rfl
  | 2, _ => rfl
  | k + 3, h => exact absurd h (by omega)
theorem fs_L : ∀ j, j < 4 → defaultValue (ty_L j) = vp_V [.null, .null, .null, .int (iI 0)] j := by
  intro j hj
  match j, hj with
  | 0, _ => rfl
  | 1, _ => rfl
  | 2, _ => rfl
  | 3, _ => rfl
  | k + 4, h => exact absurd h (by omega)
theorem fs_R : ∀ j, j < 4 → defaultValue (ty_R j) = vp_V [.int (iI 0), .int (iI 0), .int (iI 0), .int (iI 0)] j := by
  intro j hj
  match j, hj with
  | 0, _ => rfl
  | 1, _ => rfl
  | 2, _ => rfl
  | 3, _ => rfl
  | k + 4, h => exact absurd h (by omega)
theorem fs_S : ∀ j, j < 9 → defaultValue (ty_S j) = vp_V [.int (iI 0), .int (iI 0), .int (iI 0), .int (iI 0), .int (iI 0), .null, .null, .null, .null] j := by
  intro j hj
  match j, hj with
  | 0, _ => rfl
  | 1, _ => rfl
  | 2, _ => rfl
  | 3, _ => rfl
  | 4, _ => rfl
  | 5, _ => rfl
  | 6, _ => rfl
  | 7, _ => rfl
  | 8, _ => rfl
  | k + 9, h => exact absurd h (by omega)
theorem fs_M : ∀ j, j < 32 → defaultValue (ty_M j) = vp_V [.int (iI 0), .int (iI 0), .int (iI 0), .int (iI 0), .null, .null, .int (iI 0), .int (iI 0), .null, .int (iI 0), .int (iI 0), .int (iI 0), .int (iI 0), .null, .null, .null, .int (iI 0), .null, .null, .null, .int (iI 0), .int (iI 0), .int (iI 0), .null, .null, .null, .null, .null, .int (iI 0), .null, .null, .int (iI 0)] j := by
  intro j hj
  match j, hj with
  | 0, _ => rfl
  | 1, _ => rfl
  | 2, _ => rfl
  | 3, _ => rfl
  | 4, _ => rfl
  | 5, _ => rfl
  | 6, _ => rfl
  | 7, _ => rfl
  | 8, _ => rfl
  | 9, _ => rfl
  | 10, _ => rfl
  | 11, _ => rfl
  | 12, _ => rfl
  | 13, _ => rfl
  | 14, _ => rfl
  | 15, _ => rfl
  | 16, _ => rfl
  | 17, _ => rfl
  | 18, _ => rfl
  | 19, _ => rfl
  | 20, _ => rfl
  | 21, _ => rfl
  | 22, _ => rfl
  | 23, _ => rfl
  | 24, _ => rfl
  | 25, _ => rfl
  | 26, _ => rfl
  | 27, _ => rfl
  | 28, _ => rfl
  | 29, _ => rfl
  | 30, _ => rfl
  | 31, _ => rfl
  | k + 32, h => exact absurd h (by omega)
def g_R_init (h0 : Nat) (ad : Nat → Nat) (kc : Nat → ClassId) : va_W := [(h0, .inr (3, [.int (iI 0), .int (iI 0), .int (iI 1), .int (iI 0)]))]
def t_R_init (kc : Nat → ClassId) : List (ClassId × FieldType) := []
abbrev rm_R_init : Room := { frames := 1, cells := 0, slots := 0, locals := 12 }
set_option maxHeartbeats 4000000 in
set_option maxRecDepth 100000 in
theorem c_R_init (l : Launch) (dC : Nat → ClassId) (dI : Nat → Nat → Nat) (h0 : Nat) : kMc l y_R_init ws_R_init rm_R_init (dC, dI) vwC nsG h0 (.inr (3, [.int (iI 0), .int (iI 0), .int (iI 0), .int (iI 0)])) [] (g_R_init h0) t_R_init 0 0 := by
  intro sz
  refine k_enterC (cc := b_R_init) (maxL := 1) (by decide) rfl (Nat.le_of_ble_eq_true rfl) rfl ?_
  intro p e s m below meth c ls S hr hlocks hin hA hW hK hN hl
  generalize va_A [(h0, (.inr (3, [.int (iI 0), .int (iI 0), .int (iI 0), .int (iI 0)])))] sz = A at hA hW ⊢
  generalize ([.ref h0] : List Value).toArray = args at S ⊢
  obtain ⟨hx, hb, hml, hown, hts⟩ := id S
  have hl : lv_has ls 1 [(0, .ref h0)] := hl
  refine lv_aload_n hx hb dR_init_0 rfl (lv_at hl 0 rfl) ?_
  refine W.objInit hx hb hown (hts _ (gG_in mw_109)) (hts _ (gG_in mw_23)) (hts _ (gG_in k_obj)) rfl (by rw [hml]; exact hl.1) rfl dR_init_1 (Nat.le_of_ble_eq_true rfl) (Nat.le_of_ble_eq_true rfl) ?_
  refine W.eq (g2 := F0 m 4 ls []) rfl ?_
  refine lv_aload_n hx hb dR_init_4 rfl (lv_at hl 0 rfl) ?_
  refine lv_iconst (v := iI 1) hx hb dR_init_5 rfl ?_
  refine k_put (ty := .int) (ws' := [(h0, .inr (3, [.int (iI 0), .int (iI 0), .int (iI 1), .int (iI 0)]))]) (ci := 3) (C := R_R) (T := T_R) (N := 4) hx hb hts (fun w q => gG_in (inG_R w q)) ty_R tk_R nm_R hown hK hW 0 rfl rfl 2 (by decide) (hts _ (gG_in mw_112)) rfl (by decide +kernel) rfl rfl (Nat.le_of_ble_eq_true rfl) rfl dR_init_6 (fun H locs hW => ?_)
  refine W.widen (k := 0) (n := 0) (Nat.le_of_ble_eq_true rfl) (Nat.le_of_ble_eq_true rfl) ?_
  exact k_cret (g := g_R_init h0) (ty := t_R_init) hx hb hr hlocks (fun k => [].getD k 0) (fun k => [].getD k 0) (hW.perm [0] (by decide) rfl rfl) hK dR_init_9
def g_F_init (h0 : Nat) (ad : Nat → Nat) (kc : Nat → ClassId) : va_W := [(h0, .inr (4, [.ref (ad 0), .ref (ad 1), .ref (ad 2), .int (iI 0)])), (ad 0, .inl (kc 0, 16, .inl (fun j => iI (z0 j)))), (ad 1, .inl (kc 1, 16, .inl (fun j => iI (z0 j)))), (ad 2, .inl (kc 2, 16, .inl (fun j => iI (z0 j))))]
def t_F_init (kc : Nat → ClassId) : List (ClassId × FieldType) := [(kc 0, .int), (kc 1, .int), (kc 2, .int)]
abbrev rm_F_init : Room := { frames := 1, cells := 3, slots := 48, locals := 12 }
set_option maxHeartbeats 4000000 in
set_option maxRecDepth 100000 in
theorem c_F_init (l : Launch) (dC : Nat → ClassId) (dI : Nat → Nat → Nat) (h0 : Nat) : kMc l y_F_init ws_F_init rm_F_init (dC, dI) vwC nsG h0 (.inr (4, [.null, .null, .null, .int (iI 0)])) [] (g_F_init h0) t_F_init 3 48 := by
  intro sz
  refine k_enterC (cc := b_F_init) (maxL := 1) (by decide) rfl (Nat.le_of_ble_eq_true rfl) rfl ?_
  intro p e s m below meth c ls S hr hlocks hin hA hW hK hN hl
  generalize va_A [(h0, (.inr (4, [.null, .null, .null, .int (iI 0)])))] sz = A at hA hW ⊢
  generalize ([.ref h0] : List Value).toArray = args at S ⊢
  obtain ⟨hx, hb, hml, hown, hts⟩ := id S
  have hl : lv_has ls 1 [(0, .ref h0)] := hl
  refine lv_aload_n hx hb dF_init_0 rfl (lv_at hl 0 rfl) ?_
  refine W.objInit hx hb hown (hts _ (gG_in mw_128)) (hts _ (gG_in mw_23)) (hts _ (gG_in k_obj)) rfl (by rw [hml]; exact hl.1) rfl dF_init_1 (Nat.le_of_ble_eq_true rfl) (Nat.le_of_ble_eq_true rfl) ?_
  refine W.eq (g2 := F0 m 4 ls []) rfl ?_
  refine lv_aload_n hx hb dF_init_4 rfl (lv_at hl 0 rfl) ?_
  refine lv_bipush (v := iI 16) hx hb dF_init_5 (by decide) ?_
  refine k_newa (atype := .int) (ty := .int) (a0 := (16, .inl (fun _ => iI 0))) (N' := 16) hx hb (hts _ (gG_in mw_70)) rfl hK hW hA (fun _ => rfl) ⟨by constructor <;> decide, by decide, rfl⟩ (by decide) (Nat.le_of_ble_eq_true rfl) (Nat.le_of_ble_eq_true rfl) dF_init_7 (fun q1 k1 H hK hW => ?_)
  have hK : va_K (dC, dI) vwC [(k1, .int)] s := hK
  have hW : kW (dC, dI) vwC A s.heap [(h0, .inr (4, [.null, .null, .null, .int (iI 0)])), (q1, .inl (k1, 16, .inl (fun j => iI (z0 j))))] H [] := hW
  refine k_putF (ty := .array .int) (ws' := [(h0, .inr (4, [.ref q1, .null, .null, .int (iI 0)])), (q1, .inl (k1, 16, .inl (fun j => iI (z0 j))))]) (ci := 4) (C := R_F) (T := T_F) (N := 4) hx hb hts (fun w q => gG_in (inG_F w q)) ty_F tk_F nm_F hown hK hW 0 rfl rfl 0 (by decide) (hts _ (gG_in mw_129)) rfl hin rfl (by decide +kernel) rfl rfl (Nat.le_of_ble_eq_true rfl) rfl dF_init_9 (fun H locs hW => ?_)
  refine lv_aload_n hx hb dF_init_12 rfl (lv_at hl 0 rfl) ?_
  refine lv_bipush (v := iI 16) hx hb dF_init_13 (by decide) ?_
  refine k_newa (atype := .int) (ty := .int) (a0 := (16, .inl (fun _ => iI 0))) (N' := 16) hx hb (hts _ (gG_in mw_70)) rfl hK hW hA (fun _ => rfl) ⟨by constructor <;> decide, by decide, rfl⟩ (by decide) (Nat.le_of_ble_eq_true rfl) (Nat.le_of_ble_eq_true rfl) dF_init_15 (fun q2 k2 H hK hW => ?_)
  have hK : va_K (dC, dI) vwC [(k1, .int), (k2, .int)] s := hK
  have hW : kW (dC, dI) vwC A s.heap [(h0, .inr (4, [.ref q1, .null, .null, .int (iI 0)])), (q1, .inl (k1, 16, .inl (fun j => iI (z0 j)))), (q2, .inl (k2, 16, .inl (fun j => iI (z0 j))))] H locs := hW
  refine k_putF (ty := .array .int) (ws' := [(h0, .inr (4, [.ref q1, .ref q2, .null, .int (iI 0)])), (q1, .inl (k1, 16, .inl (fun j => iI (z0 j)))), (q2, .inl (k2, 16, .inl (fun j => iI (z0 j))))]) (ci := 4) (C := R_F) (T := T_F) (N := 4) hx hb hts (fun w q => gG_in (inG_F w q)) ty_F tk_F nm_F hown hK hW 0 rfl rfl 1 (by decide) (hts _ (gG_in mw_130)) rfl hin rfl (by decide +kernel) rfl rfl (Nat.le_of_ble_eq_true rfl) rfl dF_init_17 (fun H locs hW => ?_)
  refine lv_aload_n hx hb dF_init_20 rfl (lv_at hl 0 rfl) ?_
  refine lv_bipush (v := iI 16) hx hb dF_init_21 (by decide) ?_
  refine k_newa (atype := .int) (ty := .int) (a0 := (16, .inl (fun _ => iI 0))) (N' := 16) hx hb (hts _ (gG_in mw_70)) rfl hK hW hA (fun _ => rfl) ⟨by constructor <;> decide, by decide, rfl⟩ (by decide) (Nat.le_of_ble_eq_true rfl) (Nat.le_of_ble_eq_true rfl) dF_init_23 (fun q3 k3 H hK hW => ?_)
  have hK : va_K (dC, dI) vwC [(k1, .int), (k2, .int), (k3, .int)] s := hK
  have hW : kW (dC, dI) vwC A s.heap [(h0, .inr (4, [.ref q1, .ref q2, .null, .int (iI 0)])), (q1, .inl (k1, 16, .inl (fun j => iI (z0 j)))), (q2, .inl (k2, 16, .inl (fun j => iI (z0 j)))), (q3, .inl (k3, 16, .inl (fun j => iI (z0 j))))] H locs := hW
  refine k_putF (ty := .array .int) (ws' := [(h0, .inr (4, [.ref q1, .ref q2, .ref q3, .int (iI 0)])), (q1, .inl (k1, 16, .inl (fun j => iI (z0 j)))), (q2, .inl (k2, 16, .inl (fun j => iI (z0 j)))), (q3, .inl (k3, 16, .inl (fun j => iI (z0 j))))]) (ci := 4) (C := R_F) (T := T_F) (N := 4) hx hb hts (fun w q => gG_in (inG_F w q)) ty_F tk_F nm_F hown hK hW 0 rfl rfl 2 (by decide) (hts _ (gG_in mw_131)) rfl hin rfl (by decide +kernel) rfl rfl (Nat.le_of_ble_eq_true rfl) rfl dF_init_25 (fun H locs hW => ?_)
  refine W.widen (k := 3) (n := 48) (Nat.le_of_ble_eq_true rfl) (Nat.le_of_ble_eq_true rfl) ?_
  exact k_cret (g := g_F_init h0) (ty := t_F_init) hx hb hr hlocks (fun k => [q1, q2, q3].getD k 0) (fun k => [k1, k2, k3].getD k 0) (hW.perm [0, 1, 2, 3] (by decide) rfl rfl) hK dF_init_28
def g_L_init (h0 : Nat) (ad : Nat → Nat) (kc : Nat → ClassId) : va_W := [(h0, .inr (5, [.ref (ad 0), .ref (ad 1), .ref (ad 2), .int (iI 0)])), (ad 0, .inl (kc 0, 6, .inl (fun j => iI (z0 j)))), (ad 1, .inl (kc 1, 6, .inl (fun j => iI (z0 j)))), (ad 2, .inl (kc 2, 6, .inl (fun j => iI (z0 j))))]
def t_L_init (kc : Nat → ClassId) : List (ClassId × FieldType) := [(kc 0, .int), (kc 1, .int), (kc 2, .int)]
abbrev rm_L_init : Room := { frames := 1, cells := 3, slots := 18, locals := 12 }
set_option maxHeartbeats 4000000 in
set_option maxRecDepth 100000 in
theorem c_L_init (l : Launch) (dC : Nat → ClassId) (dI : Nat → Nat → Nat) (h0 : Nat) : kMc l y_L_init ws_L_init rm_L_init (dC, dI) vwC nsG h0 (.inr (5, [.null, .null, .null, .int (iI 0)])) [] (g_L_init h0) t_L_init 3 18 := by
  intro sz
  refine k_enterC (cc := b_L_init) (maxL := 1) (by decide) rfl (Nat.le_of_ble_eq_true rfl) rfl ?_
  intro p e s m below meth c ls S hr hlocks hin hA hW hK hN hl
  generalize va_A [(h0, (.inr (5, [.null, .null, .null, .int (iI 0)])))] sz = A at hA hW ⊢
  generalize ([.ref h0] : List Value).toArray = args at S ⊢
  obtain ⟨hx, hb, hml, hown, hts⟩ := id S
  have hl : lv_has ls 1 [(0, .ref h0)] := hl
  refine lv_aload_n hx hb dL_init_0 rfl (lv_at hl 0 rfl) ?_
  refine W.objInit hx hb hown (hts _ (gG_in mw_147)) (hts _ (gG_in mw_23)) (hts _ (gG_in k_obj)) rfl (by rw [hml]; exact hl.1) rfl dL_init_1 (Nat.le_of_ble_eq_true rfl) (Nat.le_of_ble_eq_true rfl) ?_
  refine W.eq (g2 := F0 m 4 ls []) rfl ?_
  refine lv_aload_n hx hb dL_init_4 rfl (lv_at hl 0 rfl) ?_
  refine lv_bipush (v := iI 6) hx hb dL_init_5 (by decide) ?_
  refine k_newa (atype := .int) (ty := .int) (a0 := (6, .inl (fun _ => iI 0))) (N' := 6) hx hb (hts _ (gG_in mw_70)) rfl hK hW hA (fun _ => rfl) ⟨by constructor <;> decide, by decide, rfl⟩ (by decide) (Nat.le_of_ble_eq_true rfl) (Nat.le_of_ble_eq_true rfl) dL_init_7 (fun q1 k1 H hK hW => ?_)
  have hK : va_K (dC, dI) vwC [(k1, .int)] s := hK
  have hW : kW (dC, dI) vwC A s.heap [(h0, .inr (5, [.null, .null, .null, .int (iI 0)])), (q1, .inl (k1, 6, .inl (fun j => iI (z0 j))))] H [] := hW
  refine k_putF (ty := .array .int) (ws' := [(h0, .inr (5, [.ref q1, .null, .null, .int (iI 0)])), (q1, .inl (k1, 6, .inl (fun j => iI (z0 j))))]) (ci := 5) (C := R_L) (T := T_L) (N := 4) hx hb hts (fun w q => gG_in (inG_L w q)) ty_L tk_L nm_L hown hK hW 0 rfl rfl 0 (by decide) (hts _ (gG_in mw_148)) rfl hin rfl (by decide +kernel) rfl rfl (Nat.le_of_ble_eq_true rfl) rfl dL_init_9 (fun H locs hW => ?_)
  refine lv_aload_n hx hb dL_init_12 rfl (lv_at hl 0 rfl) ?_
  refine lv_bipush (v := iI 6) hx hb dL_init_13 (by decide) ?_
  refine k_newa (atype := .int) (ty := .int) (a0 := (6, .inl (fun _ => iI 0))) (N' := 6) hx hb (hts _ (gG_in mw_70)) rfl hK hW hA (fun _ => rfl) ⟨by constructor <;> decide, by decide, rfl⟩ (by decide) (Nat.le_of_ble_eq_true rfl) (Nat.le_of_ble_eq_true rfl) dL_init_15 (fun q2 k2 H hK hW => ?_)
  have hK : va_K (dC, dI) vwC [(k1, .int), (k2, .int)] s := hK
  have hW : kW (dC, dI) vwC A s.heap [(h0, .inr (5, [.ref q1, .null, .null, .int (iI 0)])), (q1, .inl (k1, 6, .inl (fun j => iI (z0 j)))), (q2, .inl (k2, 6, .inl (fun j => iI (z0 j))))] H locs := hW
  refine k_putF (ty := .array .int) (ws' := [(h0, .inr (5, [.ref q1, .ref q2, .null, .int (iI 0)])), (q1, .inl (k1, 6, .inl (fun j => iI (z0 j)))), (q2, .inl (k2, 6, .inl (fun j => iI (z0 j))))]) (ci := 5) (C := R_L) (T := T_L) (N := 4) hx hb hts (fun w q => gG_in (inG_L w q)) ty_L tk_L nm_L hown hK hW 0 rfl rfl 1 (by decide) (hts _ (gG_in mw_149)) rfl hin rfl (by decide +kernel) rfl rfl (Nat.le_of_ble_eq_true rfl) rfl dL_init_17 (fun H locs hW => ?_)
  refine lv_aload_n hx hb dL_init_20 rfl (lv_at hl 0 rfl) ?_
  refine lv_bipush (v := iI 6) hx hb dL_init_21 (by decide) ?_
  refine k_newa (atype := .int) (ty := .int) (a0 := (6, .inl (fun _ => iI 0))) (N' := 6) hx hb (hts _ (gG_in mw_70)) rfl hK hW hA (fun _ => rfl) ⟨by constructor <;> decide, by decide, rfl⟩ (by decide) (Nat.le_of_ble_eq_true rfl) (Nat.le_of_ble_eq_true rfl) dL_init_23 (fun q3 k3 H hK hW => ?_)
  have hK : va_K (dC, dI) vwC [(k1, .int), (k2, .int), (k3, .int)] s := hK
  have hW : kW (dC, dI) vwC A s.heap [(h0, .inr (5, [.ref q1, .ref q2, .null, .int (iI 0)])), (q1, .inl (k1, 6, .inl (fun j => iI (z0 j)))), (q2, .inl (k2, 6, .inl (fun j => iI (z0 j)))), (q3, .inl (k3, 6, .inl (fun j => iI (z0 j))))] H locs := hW
  refine k_putF (ty := .array .int) (ws' := [(h0, .inr (5, [.ref q1, .ref q2, .ref q3, .int (iI 0)])), (q1, .inl (k1, 6, .inl (fun j => iI (z0 j)))), (q2, .inl (k2, 6, .inl (fun j => iI (z0 j)))), (q3, .inl (k3, 6, .inl (fun j => iI (z0 j))))]) (ci := 5) (C := R_L) (T := T_L) (N := 4) hx hb hts (fun w q => gG_in (inG_L w q)) ty_L tk_L nm_L hown hK hW 0 rfl rfl 2 (by decide) (hts _ (gG_in mw_150)) rfl hin rfl (by decide +kernel) rfl rfl (Nat.le_of_ble_eq_true rfl) rfl dL_init_25 (fun H locs hW => ?_)
  refine W.widen (k := 3) (n := 18) (Nat.le_of_ble_eq_true rfl) (Nat.le_of_ble_eq_true rfl) ?_
  exact k_cret (g := g_L_init h0) (ty := t_L_init) hx hb hr hlocks (fun k => [q1, q2, q3].getD k 0) (fun k => [k1, k2, k3].getD k 0) (hW.perm [0, 1, 2, 3] (by decide) rfl rfl) hK dL_init_28
def g_C_init (h0 : Nat) (ad : Nat → Nat) (kc : Nat → ClassId) : va_W := [(h0, .inr (6, [.ref (ad 0), .ref (ad 1), .ref (ad 2), .ref (ad 3), .ref (ad 4), .int (iI 0), .int (iI 0), .int (iI 0), .int (iI 0), .int (iI 0)])), (ad 0, .inl (kc 0, 2000, .inl (fun j => iI (z0 j)))), (ad 1, .inl (kc 1, 2001, .inr (.inl (fun j => lI (z0 j))))), (ad 2, .inl (kc 2, 2000, .inl (fun j => iI (z0 j)))), (ad 3, .inl (kc 3, 2000, .inl (fun j => iI (z0 j)))), (ad 4, .inl (kc 4, 6, .inl (fun j => iI (z0 j))))]
def t_C_init (kc : Nat → ClassId) : List (ClassId × FieldType) := [(kc 0, .int), (kc 1, .long), (kc 2, .int), (kc 3, .int), (kc 4, .int)]
abbrev rm_C_init : Room := { frames := 1, cells := 5, slots := 8007, locals := 12 }
set_option maxHeartbeats 4000000 in
set_option maxRecDepth 100000 in
theorem c_C_init (l : Launch) (dC : Nat → ClassId) (dI : Nat → Nat → Nat) (h0 : Nat) : kMc l y_C_init ws_C_init rm_C_init (dC, dI) vwC nsG h0 (.inr (6, [.null, .null, .null, .null, .null, .int (iI 0), .int (iI 0), .int (iI 0), .int (iI 0), .int (iI 0)])) [] (g_C_init h0) t_C_init 5 8007 := by
  intro sz
  refine k_enterC (cc := b_C_init) (maxL := 1) (by decide) rfl (Nat.le_of_ble_eq_true rfl) rfl ?_
  intro p e s m below meth c ls S hr hlocks hin hA hW hK hN hl
  generalize va_A [(h0, (.inr (6, [.null, .null, .null, .null, .null, .int (iI 0), .int (iI 0), .int (iI 0), .int (iI 0), .int (iI 0)])))] sz = A at hA hW ⊢
  generalize ([.ref h0] : List Value).toArray = args at S ⊢
  obtain ⟨hx, hb, hml, hown, hts⟩ := id S
  have hl : lv_has ls 1 [(0, .ref h0)] := hl
  refine lv_aload_n hx hb dC_init_0 rfl (lv_at hl 0 rfl) ?_
  refine W.objInit hx hb hown (hts _ (gG_in mw_166)) (hts _ (gG_in mw_23)) (hts _ (gG_in k_obj)) rfl (by rw [hml]; exact hl.1) rfl dC_init_1 (Nat.le_of_ble_eq_true rfl) (Nat.le_of_ble_eq_true rfl) ?_
  refine W.eq (g2 := F0 m 4 ls []) rfl ?_
  refine lv_aload_n hx hb dC_init_4 rfl (lv_at hl 0 rfl) ?_
  refine lv_sipush (v := iI 2000) hx hb dC_init_5 (by decide) ?_
  refine k_newa (atype := .int) (ty := .int) (a0 := (2000, .inl (fun _ => iI 0))) (N' := 2000) hx hb (hts _ (gG_in mw_70)) rfl hK hW hA (fun _ => rfl) ⟨by constructor <;> decide, by decide, rfl⟩ (by decide) (Nat.le_of_ble_eq_true rfl) (Nat.le_of_ble_eq_true rfl) dC_init_8 (fun q1 k1 H hK hW => ?_)
  have hK : va_K (dC, dI) vwC [(k1, .int)] s := hK
  have hW : kW (dC, dI) vwC A s.heap [(h0, .inr (6, [.null, .null, .null, .null, .null, .int (iI 0), .int (iI 0), .int (iI 0), .int (iI 0), .int (iI 0)])), (q1, .inl (k1, 2000, .inl (fun j => iI (z0 j))))] H [] := hW
  refine k_putF (ty := .array .int) (ws' := [(h0, .inr (6, [.ref q1, .null, .null, .null, .null, .int (iI 0), .int (iI 0), .int (iI 0), .int (iI 0), .int (iI 0)])), (q1, .inl (k1, 2000, .inl (fun j => iI (z0 j))))]) (ci := 6) (C := R_C) (T := T_C) (N := 10) hx hb hts (fun w q => gG_in (inG_C w q)) ty_C tk_C nm_C hown hK hW 0 rfl rfl 0 (by decide) (hts _ (gG_in mw_167)) rfl hin rfl (by decide +kernel) rfl rfl (Nat.le_of_ble_eq_true rfl) rfl dC_init_10 (fun H locs hW => ?_)
  refine lv_aload_n hx hb dC_init_13 rfl (lv_at hl 0 rfl) ?_
  refine lv_sipush (v := iI 2001) hx hb dC_init_14 (by decide) ?_
  refine k_newa (atype := .long) (ty := .long) (a0 := (2001, .inr (.inl (fun _ => lI 0)))) (N' := 2001) hx hb (hts _ (gG_in mw_198)) rfl hK hW hA (fun _ => rfl) ⟨by constructor <;> decide, by decide, rfl⟩ (by decide) (Nat.le_of_ble_eq_true rfl) (Nat.le_of_ble_eq_true rfl) dC_init_17 (fun q2 k2 H hK hW => ?_)
  have hK : va_K (dC, dI) vwC [(k1, .int), (k2, .long)] s := hK
  have hW : kW (dC, dI) vwC A s.heap [(h0, .inr (6, [.ref q1, .null, .null, .null, .null, .int (iI 0), .int (iI 0), .int (iI 0), .int (iI 0), .int (iI 0)])), (q1, .inl (k1, 2000, .inl (fun j => iI (z0 j)))), (q2, .inl (k2, 2001, .inr (.inl (fun j => lI (z0 j)))))] H locs := hW
  refine k_putF (ty := .array .long) (ws' := [(h0, .inr (6, [.ref q1, .ref q2, .null, .null, .null, .int (iI 0), .int (iI 0), .int (iI 0), .int (iI 0), .int (iI 0)])), (q1, .inl (k1, 2000, .inl (fun j => iI (z0 j)))), (q2, .inl (k2, 2001, .inr (.inl (fun j => lI (z0 j)))))]) (ci := 6) (C := R_C) (T := T_C) (N := 10) hx hb hts (fun w q => gG_in (inG_C w q)) ty_C tk_C nm_C hown hK hW 0 rfl rfl 1 (by decide) (hts _ (gG_in mw_168)) rfl hin rfl (by decide +kernel) rfl rfl (Nat.le_of_ble_eq_true rfl) rfl dC_init_19 (fun H locs hW => ?_)
  refine lv_aload_n hx hb dC_init_22 rfl (lv_at hl 0 rfl) ?_
  refine lv_sipush (v := iI 2000) hx hb dC_init_23 (by decide) ?_
  refine k_newa (atype := .int) (ty := .int) (a0 := (2000, .inl (fun _ => iI 0))) (N' := 2000) hx hb (hts _ (gG_in mw_70)) rfl hK hW hA (fun _ => rfl) ⟨by constructor <;> decide, by decide, rfl⟩ (by decide) (Nat.le_of_ble_eq_true rfl) (Nat.le_of_ble_eq_true rfl) dC_init_26 (fun q3 k3 H hK hW => ?_)
  have hK : va_K (dC, dI) vwC [(k1, .int), (k2, .long), (k3, .int)] s := hK
  have hW : kW (dC, dI) vwC A s.heap [(h0, .inr (6, [.ref q1, .ref q2, .null, .null, .null, .int (iI 0), .int (iI 0), .int (iI 0), .int (iI 0), .int (iI 0)])), (q1, .inl (k1, 2000, .inl (fun j => iI (z0 j)))), (q2, .inl (k2, 2001, .inr (.inl (fun j => lI (z0 j))))), (q3, .inl (k3, 2000, .inl (fun j => iI (z0 j))))] H locs := hW
  refine k_putF (ty := .array .int) (ws' := [(h0, .inr (6, [.ref q1, .ref q2, .ref q3, .null, .null, .int (iI 0), .int (iI 0), .int (iI 0), .int (iI 0), .int (iI 0)])), (q1, .inl (k1, 2000, .inl (fun j => iI (z0 j)))), (q2, .inl (k2, 2001, .inr (.inl (fun j => lI (z0 j))))), (q3, .inl (k3, 2000, .inl (fun j => iI (z0 j))))]) (ci := 6) (C := R_C) (T := T_C) (N := 10) hx hb hts (fun w q => gG_in (inG_C w q)) ty_C tk_C nm_C hown hK hW 0 rfl rfl 2 (by decide) (hts _ (gG_in mw_169)) rfl hin rfl (by decide +kernel) rfl rfl (Nat.le_of_ble_eq_true rfl) rfl dC_init_28 (fun H locs hW => ?_)
  refine lv_aload_n hx hb dC_init_31 rfl (lv_at hl 0 rfl) ?_
  refine lv_sipush (v := iI 2000) hx hb dC_init_32 (by decide) ?_
  refine k_newa (atype := .int) (ty := .int) (a0 := (2000, .inl (fun _ => iI 0))) (N' := 2000) hx hb (hts _ (gG_in mw_70)) rfl hK hW hA (fun _ => rfl) ⟨by constructor <;> decide, by decide, rfl⟩ (by decide) (Nat.le_of_ble_eq_true rfl) (Nat.le_of_ble_eq_true rfl) dC_init_35 (fun q4 k4 H hK hW => ?_)
  have hK : va_K (dC, dI) vwC [(k1, .int), (k2, .long), (k3, .int), (k4, .int)] s := hK
  have hW : kW (dC, dI) vwC A s.heap [(h0, .inr (6, [.ref q1, .ref q2, .ref q3, .null, .null, .int (iI 0), .int (iI 0), .int (iI 0), .int (iI 0), .int (iI 0)])), (q1, .inl (k1, 2000, .inl (fun j => iI (z0 j)))), (q2, .inl (k2, 2001, .inr (.inl (fun j => lI (z0 j))))), (q3, .inl (k3, 2000, .inl (fun j => iI (z0 j)))), (q4, .inl (k4, 2000, .inl (fun j => iI (z0 j))))] H locs := hW
  refine k_putF (ty := .array .int) (ws' := [(h0, .inr (6, [.ref q1, .ref q2, .ref q3, .ref q4, .null, .int (iI 0), .int (iI 0), .int (iI 0), .int (iI 0), .int (iI 0)])), (q1, .inl (k1, 2000, .inl (fun j => iI (z0 j)))), (q2, .inl (k2, 2001, .inr (.inl (fun j => lI (z0 j))))), (q3, .inl (k3, 2000, .inl (fun j => iI (z0 j)))), (q4, .inl (k4, 2000, .inl (fun j => iI (z0 j))))]) (ci := 6) (C := R_C) (T := T_C) (N := 10) hx hb hts (fun w q => gG_in (inG_C w q)) ty_C tk_C nm_C hown hK hW 0 rfl rfl 3 (by decide) (hts _ (gG_in mw_170)) rfl hin rfl (by decide +kernel) rfl rfl (Nat.le_of_ble_eq_true rfl) rfl dC_init_37 (fun H locs hW => ?_)
  refine lv_aload_n hx hb dC_init_40 rfl (lv_at hl 0 rfl) ?_
  refine lv_bipush (v := iI 6) hx hb dC_init_41 (by decide) ?_
  refine k_newa (atype := .int) (ty := .int) (a0 := (6, .inl (fun _ => iI 0))) (N' := 6) hx hb (hts _ (gG_in mw_70)) rfl hK hW hA (fun _ => rfl) ⟨by constructor <;> decide, by decide, rfl⟩ (by decide) (Nat.le_of_ble_eq_true rfl) (Nat.le_of_ble_eq_true rfl) dC_init_43 (fun q5 k5 H hK hW => ?_)
  have hK : va_K (dC, dI) vwC [(k1, .int), (k2, .long), (k3, .int), (k4, .int), (k5, .int)] s := hK
  have hW : kW (dC, dI) vwC A s.heap [(h0, .inr (6, [.ref q1, .ref q2, .ref q3, .ref q4, .null, .int (iI 0), .int (iI 0), .int (iI 0), .int (iI 0), .int (iI 0)])), (q1, .inl (k1, 2000, .inl (fun j => iI (z0 j)))), (q2, .inl (k2, 2001, .inr (.inl (fun j => lI (z0 j))))), (q3, .inl (k3, 2000, .inl (fun j => iI (z0 j)))), (q4, .inl (k4, 2000, .inl (fun j => iI (z0 j)))), (q5, .inl (k5, 6, .inl (fun j => iI (z0 j))))] H locs := hW
  refine k_putF (ty := .array .int) (ws' := [(h0, .inr (6, [.ref q1, .ref q2, .ref q3, .ref q4, .ref q5, .int (iI 0), .int (iI 0), .int (iI 0), .int (iI 0), .int (iI 0)])), (q1, .inl (k1, 2000, .inl (fun j => iI (z0 j)))), (q2, .inl (k2, 2001, .inr (.inl (fun j => lI (z0 j))))), (q3, .inl (k3, 2000, .inl (fun j => iI (z0 j)))), (q4, .inl (k4, 2000, .inl (fun j => iI (z0 j)))), (q5, .inl (k5, 6, .inl (fun j => iI (z0 j))))]) (ci := 6) (C := R_C) (T := T_C) (N := 10) hx hb hts (fun w q => gG_in (inG_C w q)) ty_C tk_C nm_C hown hK hW 0 rfl rfl 4 (by decide) (hts _ (gG_in mw_171)) rfl hin rfl (by decide +kernel) rfl rfl (Nat.le_of_ble_eq_true rfl) rfl dC_init_45 (fun H locs hW => ?_)
  refine W.widen (k := 5) (n := 8007) (Nat.le_of_ble_eq_true rfl) (Nat.le_of_ble_eq_true rfl) ?_
  exact k_cret (g := g_C_init h0) (ty := t_C_init) hx hb hr hlocks (fun k => [q1, q2, q3, q4, q5].getD k 0) (fun k => [k1, k2, k3, k4, k5].getD k 0) (hW.perm [0, 1, 2, 3, 4, 5] (by decide) rfl rfl) hK dC_init_48
def g_K_init (h0 : Nat) (ad : Nat → Nat) (kc : Nat → ClassId) : va_W := [(h0, .inr (7, [.ref (ad 0), .ref (ad 1), .int (iI 0)])), (ad 0, .inl (kc 0, 8, .inl (fun j => iI (z0 j)))), (ad 1, .inl (kc 1, 8, .inl (fun j => iI (z0 j))))]
def t_K_init (kc : Nat → ClassId) : List (ClassId × FieldType) := [(kc 0, .int), (kc 1, .int)]
abbrev rm_K_init : Room := { frames := 1, cells := 2, slots := 16, locals := 12 }
set_option maxHeartbeats 4000000 in
set_option maxRecDepth 100000 in
theorem c_K_init (l : Launch) (dC : Nat → ClassId) (dI : Nat → Nat → Nat) (h0 : Nat) : kMc l y_K_init ws_K_init rm_K_init (dC, dI) vwC nsG h0 (.inr (7, [.null, .null, .int (iI 0)])) [] (g_K_init h0) t_K_init 2 16 := by
  intro sz
  refine k_enterC (cc := b_K_init) (maxL := 1) (by decide) rfl (Nat.le_of_ble_eq_true rfl) rfl ?_
  intro p e s m below meth c ls S hr hlocks hin hA hW hK hN hl
  generalize va_A [(h0, (.inr (7, [.null, .null, .int (iI 0)])))] sz = A at hA hW ⊢
  generalize ([.ref h0] : List Value).toArray = args at S ⊢
  obtain ⟨hx, hb, hml, hown, hts⟩ := id S
  have hl : lv_has ls 1 [(0, .ref h0)] := hl
  refine lv_aload_n hx hb dK_init_0 rfl (lv_at hl 0 rfl) ?_
  refine W.objInit hx hb hown (hts _ (gG_in mw_204)) (hts _ (gG_in mw_23)) (hts _ (gG_in k_obj)) rfl (by rw [hml]; exact hl.1) rfl dK_init_1 (Nat.le_of_ble_eq_true rfl) (Nat.le_of_ble_eq_true rfl) ?_
  refine W.eq (g2 := F0 m 4 ls []) rfl ?_
  refine lv_aload_n hx hb dK_init_4 rfl (lv_at hl 0 rfl) ?_
  refine lv_bipush (v := iI 8) hx hb dK_init_5 (by decide) ?_
  refine k_newa (atype := .int) (ty := .int) (a0 := (8, .inl (fun _ => iI 0))) (N' := 8) hx hb (hts _ (gG_in mw_70)) rfl hK hW hA (fun _ => rfl) ⟨by constructor <;> decide, by decide, rfl⟩ (by decide) (Nat.le_of_ble_eq_true rfl) (Nat.le_of_ble_eq_true rfl) dK_init_7 (fun q1 k1 H hK hW => ?_)
  have hK : va_K (dC, dI) vwC [(k1, .int)] s := hK
  have hW : kW (dC, dI) vwC A s.heap [(h0, .inr (7, [.null, .null, .int (iI 0)])), (q1, .inl (k1, 8, .inl (fun j => iI (z0 j))))] H [] := hW
  refine k_putF (ty := .array .int) (ws' := [(h0, .inr (7, [.ref q1, .null, .int (iI 0)])), (q1, .inl (k1, 8, .inl (fun j => iI (z0 j))))]) (ci := 7) (C := R_K) (T := T_K) (N := 3) hx hb hts (fun w q => gG_in (inG_K w q)) ty_K tk_K nm_K hown hK hW 0 rfl rfl 0 (by decide) (hts _ (gG_in mw_205)) rfl hin rfl (by decide +kernel) rfl rfl (Nat.le_of_ble_eq_true rfl) rfl dK_init_9 (fun H locs hW => ?_)
  refine lv_aload_n hx hb dK_init_12 rfl (lv_at hl 0 rfl) ?_
  refine lv_bipush (v := iI 8) hx hb dK_init_13 (by decide) ?_
  refine k_newa (atype := .int) (ty := .int) (a0 := (8, .inl (fun _ => iI 0))) (N' := 8) hx hb (hts _ (gG_in mw_70)) rfl hK hW hA (fun _ => rfl) ⟨by constructor <;> decide, by decide, rfl⟩ (by decide) (Nat.le_of_ble_eq_true rfl) (Nat.le_of_ble_eq_true rfl) dK_init_15 (fun q2 k2 H hK hW => ?_)
  have hK : va_K (dC, dI) vwC [(k1, .int), (k2, .int)] s := hK
  have hW : kW (dC, dI) vwC A s.heap [(h0, .inr (7, [.ref q1, .null, .int (iI 0)])), (q1, .inl (k1, 8, .inl (fun j => iI (z0 j)))), (q2, .inl (k2, 8, .inl (fun j => iI (z0 j))))] H locs := hW
  refine k_putF (ty := .array .int) (ws' := [(h0, .inr (7, [.ref q1, .ref q2, .int (iI 0)])), (q1, .inl (k1, 8, .inl (fun j => iI (z0 j)))), (q2, .inl (k2, 8, .inl (fun j => iI (z0 j))))]) (ci := 7) (C := R_K) (T := T_K) (N := 3) hx hb hts (fun w q => gG_in (inG_K w q)) ty_K tk_K nm_K hown hK hW 0 rfl rfl 1 (by decide) (hts _ (gG_in mw_206)) rfl hin rfl (by decide +kernel) rfl rfl (Nat.le_of_ble_eq_true rfl) rfl dK_init_17 (fun H locs hW => ?_)
  refine W.widen (k := 2) (n := 16) (Nat.le_of_ble_eq_true rfl) (Nat.le_of_ble_eq_true rfl) ?_
  exact k_cret (g := g_K_init h0) (ty := t_K_init) hx hb hr hlocks (fun k => [q1, q2].getD k 0) (fun k => [k1, k2].getD k 0) (hW.perm [0, 1, 2] (by decide) rfl rfl) hK dK_init_20
set_option maxHeartbeats 4000000 in
theorem c1_S_side (l : Launch) (dC : Nat → ClassId) (dI : Nat → Nat → Nat) (tys : List (ClassId × FieldType)) (b1 : Nat) (a0 a1 a2 a3 a4 : Int) (e5 e6 e7 e8 : Nat) : kMp l y_S_side ws_S_side rm_S_side (dC, dI) vwC tys (fun _ => [(b1, .inr (1, [.int (iI a0), .int (iI a1), .int (iI a2), .int (iI a3), .int (iI a4), .ref e5, .ref e6, .ref e7, .ref e8]))]) nsG (fun _ _ => 0) [.ref b1] (fun r => a1 = r) := by
  refine k_enterP (cc := b_S_side) (maxL := 1) (ret := (some .int)) (by decide) rfl (Nat.le_of_ble_eq_true rfl) ?_
  intro p e s m below meth c ls S hr hlocks hP hK hN hl
  generalize ([.ref b1] : List Value).toArray = args at S ⊢
  obtain ⟨hx, hb, hml, hown, hts⟩ := id S
  have hl : lv_has ls 1 [(0, .ref b1)] := hl
  refine lv_aload_n hx hb dS_side_0 rfl (lv_at hl 0 rfl) ?_
  refine k_get (ci := 1) (C := R_S) (T := T_S) (N := 9) hx hb hts (fun w q => gG_in (inG_S w q)) hown hK hP 0 rfl rfl 1 (by decide) (hts _ (gG_in mw_42)) rfl dS_side_1 ?_
  exact k_iretP hx hb hr hlocks dS_side_4 rfl
set_option maxHeartbeats 4000000 in
theorem c1_S_parts (l : Launch) (dC : Nat → ClassId) (dI : Nat → Nat → Nat) (tys : List (ClassId × FieldType)) (b1 : Nat) (a0 a1 a2 a3 a4 : Int) (e5 e6 e7 e8 : Nat) : kMp l y_S_parts ws_S_parts rm_S_parts (dC, dI) vwC tys (fun _ => [(b1, .inr (1, [.int (iI a0), .int (iI a1), .int (iI a2), .int (iI a3), .int (iI a4), .ref e5, .ref e6, .ref e7, .ref e8]))]) nsG (fun _ _ => 0) [.ref b1] (fun r => a2 = r) := by
  refine k_enterP (cc := b_S_parts) (maxL := 1) (ret := (some .int)) (by decide) rfl (Nat.le_of_ble_eq_true rfl) ?_
  intro p e s m below meth c ls S hr hlocks hP hK hN hl
  generalize ([.ref b1] : List Value).toArray = args at S ⊢
  obtain ⟨hx, hb, hml, hown, hts⟩ := id S
  have hl : lv_has ls 1 [(0, .ref b1)] := hl
  refine lv_aload_n hx hb dS_parts_0 rfl (lv_at hl 0 rfl) ?_
  refine k_get (ci := 1) (C := R_S) (T := T_S) (N := 9) hx hb hts (fun w q => gG_in (inG_S w q)) hown hK hP 0 rfl rfl 2 (by decide) (hts _ (gG_in mw_43)) rfl dS_parts_1 ?_
  exact k_iretP hx hb hr hlocks dS_parts_4 rfl
def g_A_init (h0 : Nat) (b1 : Nat) (a0 a1 a2 a3 a4 : Int) (e5 e6 e7 e8 : Nat) (ad : Nat → Nat) (kc : Nat → ClassId) : va_W := [(h0, .inr (2, [.ref b1, .int (iI a1), .int (iI a2), .ref (ad 0), .int (iI 0), .int (iI 1)])), (b1, .inr (1, [.int (iI a0), .int (iI a1), .int (iI a2), .int (iI a3), .int (iI a4), .ref e5, .ref e6, .ref e7, .ref e8])), (ad 0, .inl (kc 0, 4, .inl (fun j => iI (z0 j))))]
def t_A_init (kc : Nat → ClassId) : List (ClassId × FieldType) := [(kc 0, .int)]
abbrev rm_A_init : Room := { frames := 1, cells := 1, slots := 4, locals := 20 }
set_option maxHeartbeats 4000000 in
set_option maxRecDepth 100000 in
theorem c_A_init (l : Launch) (dC : Nat → ClassId) (dI : Nat → Nat → Nat) (h0 : Nat) (b1 : Nat) (a0 a1 a2 a3 a4 : Int) (e5 e6 e7 e8 : Nat) : kMd l y_A_init ws_A_init rm_A_init (dC, dI) vwC nsG h0 [(h0, .inr (2, [.null, .int (iI 0), .int (iI 0), .null, .int (iI 0), .int (iI 0)])), (b1, .inr (1, [.int (iI a0), .int (iI a1), .int (iI a2), .int (iI a3), .int (iI a4), .ref e5, .ref e6, .ref e7, .ref e8]))] [.ref b1] (g_A_init h0 b1 a0 a1 a2 a3 a4 e5 e6 e7 e8) t_A_init 1 4 := by
  intro sz
  refine k_enterC (cc := b_A_init) (maxL := 2) (by decide) rfl (Nat.le_of_ble_eq_true rfl) rfl ?_
  intro p e s m below meth c ls S hr hlocks hin hA hW hK hN hl
  generalize va_A [(h0, .inr (2, [.null, .int (iI 0), .int (iI 0), .null, .int (iI 0), .int (iI 0)])), (b1, .inr (1, [.int (iI a0), .int (iI a1), .int (iI a2), .int (iI a3), .int (iI a4), .ref e5, .ref e6, .ref e7, .ref e8]))] sz = A at hA hW ⊢
  generalize ([.ref h0, .ref b1] : List Value).toArray = args at S ⊢
  obtain ⟨hx, hb, hml, hown, hts⟩ := id S
  have hl : lv_has ls 2 [(0, .ref h0), (1, .ref b1)] := hl
  refine lv_aload_n hx hb dA_init_0 rfl (lv_at hl 0 rfl) ?_
  refine W.objInit hx hb hown (hts _ (gG_in mw_76)) (hts _ (gG_in mw_23)) (hts _ (gG_in k_obj)) rfl (by rw [hml]; exact hl.1) rfl dA_init_1 (Nat.le_of_ble_eq_true rfl) (Nat.le_of_ble_eq_true rfl) ?_
  refine W.eq (g2 := F0 m 4 ls []) rfl ?_
  refine lv_aload_n hx hb dA_init_4 rfl (lv_at hl 0 rfl) ?_
  refine lv_iconst (v := iI 4) hx hb dA_init_5 rfl ?_
  refine k_newa (atype := .int) (ty := .int) (a0 := (4, .inl (fun _ => iI 0))) (N' := 4) hx hb (hts _ (gG_in mw_70)) rfl hK hW hA (fun _ => rfl) ⟨by constructor <;> decide, by decide, rfl⟩ (by decide) (Nat.le_of_ble_eq_true rfl) (Nat.le_of_ble_eq_true rfl) dA_init_6 (fun q1 k1 H hK hW => ?_)
  have hK : va_K (dC, dI) vwC [(k1, .int)] s := hK
  have hW : kW (dC, dI) vwC A s.heap [(h0, .inr (2, [.null, .int (iI 0), .int (iI 0), .null, .int (iI 0), .int (iI 0)])), (b1, .inr (1, [.int (iI a0), .int (iI a1), .int (iI a2), .int (iI a3), .int (iI a4), .ref e5, .ref e6, .ref e7, .ref e8])), (q1, .inl (k1, 4, .inl (fun j => iI (z0 j))))] H [] := hW
  refine k_putF (ty := .array .int) (ws' := [(h0, .inr (2, [.null, .int (iI 0), .int (iI 0), .ref q1, .int (iI 0), .int (iI 0)])), (b1, .inr (1, [.int (iI a0), .int (iI a1), .int (iI a2), .int (iI a3), .int (iI a4), .ref e5, .ref e6, .ref e7, .ref e8])), (q1, .inl (k1, 4, .inl (fun j => iI (z0 j))))]) (ci := 2) (C := R_A) (T := T_A) (N := 6) hx hb hts (fun w q => gG_in (inG_A w q)) ty_A tk_A nm_A hown hK hW 0 rfl rfl 3 (by decide) (hts _ (gG_in mw_88)) rfl hin rfl (by decide +kernel) rfl rfl (Nat.le_of_ble_eq_true rfl) rfl dA_init_8 (fun H locs hW => ?_)
  refine lv_aload_n hx hb dA_init_11 rfl (lv_at hl 0 rfl) ?_
  refine lv_iconst (v := iI 1) hx hb dA_init_12 rfl ?_
  refine k_put (ty := .boolean) (ws' := [(h0, .inr (2, [.null, .int (iI 0), .int (iI 0), .ref q1, .int (iI 0), .int (iI 1)])), (b1, .inr (1, [.int (iI a0), .int (iI a1), .int (iI a2), .int (iI a3), .int (iI a4), .ref e5, .ref e6, .ref e7, .ref e8])), (q1, .inl (k1, 4, .inl (fun j => iI (z0 j))))]) (ci := 2) (C := R_A) (T := T_A) (N := 6) hx hb hts (fun w q => gG_in (inG_A w q)) ty_A tk_A nm_A hown hK hW 0 rfl rfl 5 (by decide) (hts _ (gG_in mw_90)) rfl (by decide +kernel) (narZ (by decide)) (fitZ (by decide)) (Nat.le_of_ble_eq_true rfl) rfl dA_init_13 (fun H locs hW => ?_)
  refine lv_aload_n hx hb dA_init_16 rfl (lv_at hl 0 rfl) ?_
  refine lv_aload_n hx hb dA_init_17 rfl (lv_at hl 1 rfl) ?_
  refine k_putF (ty := .object "PeelRibbons$Slices") (ws' := [(h0, .inr (2, [.ref b1, .int (iI 0), .int (iI 0), .ref q1, .int (iI 0), .int (iI 1)])), (b1, .inr (1, [.int (iI a0), .int (iI a1), .int (iI a2), .int (iI a3), .int (iI a4), .ref e5, .ref e6, .ref e7, .ref e8])), (q1, .inl (k1, 4, .inl (fun j => iI (z0 j))))]) (ci := 2) (C := R_A) (T := T_A) (N := 6) hx hb hts (fun w q => gG_in (inG_A w q)) ty_A tk_A nm_A hown hK hW 0 rfl rfl 0 (by decide) (hts _ (gG_in mw_85)) rfl hin rfl (by decide +kernel) rfl rfl (Nat.le_of_ble_eq_true rfl) rfl dA_init_18 (fun H locs hW => ?_)
  refine lv_aload_n hx hb dA_init_21 rfl (lv_at hl 0 rfl) ?_
  refine lv_aload_n hx hb dA_init_22 rfl (lv_at hl 1 rfl) ?_
  refine kc_vp (As := []) (rest := [.ref h0]) (ci := 1) (q0 := 0) S (c1_S_side l dC dI [(k1, .int)] b1 a0 a1 a2 a3 a4 e5 e6 e7 e8) (cwV 0 hts (gV mw_77 mw_78 mw_79 mw_2 k_S_side) rfl rfl rfl (by decide +kernel) ⟨Nat.le_of_ble_eq_true rfl, Nat.le_of_ble_eq_true rfl⟩) hK hN (hW.1.sub [1] rfl) rfl rfl rfl hl.1 rfl (Nat.le_of_ble_eq_true rfl) dA_init_23 ⟨Nat.le_of_ble_eq_true rfl, Nat.le_of_ble_eq_true rfl⟩ (fun r1 hp => ?_)
  subst hp
  refine k_putF (ty := .int) (ws' := [(h0, .inr (2, [.ref b1, .int (iI a1), .int (iI 0), .ref q1, .int (iI 0), .int (iI 1)])), (b1, .inr (1, [.int (iI a0), .int (iI a1), .int (iI a2), .int (iI a3), .int (iI a4), .ref e5, .ref e6, .ref e7, .ref e8])), (q1, .inl (k1, 4, .inl (fun j => iI (z0 j))))]) (ci := 2) (C := R_A) (T := T_A) (N := 6) hx hb hts (fun w q => gG_in (inG_A w q)) ty_A tk_A nm_A hown hK hW 0 rfl rfl 1 (by decide) (hts _ (gG_in mw_86)) rfl hin rfl (by decide +kernel) rfl rfl (Nat.le_of_ble_eq_true rfl) rfl dA_init_26 (fun H locs hW => ?_)
  refine lv_aload_n hx hb dA_init_29 rfl (lv_at hl 0 rfl) ?_
  refine lv_aload_n hx hb dA_init_30 rfl (lv_at hl 1 rfl) ?_
  refine kc_vp (As := []) (rest := [.ref h0]) (ci := 1) (q0 := 0) S (c1_S_parts l dC dI [(k1, .int)] b1 a0 a1 a2 a3 a4 e5 e6 e7 e8) (cwV 0 hts (gV mw_81 mw_82 mw_83 mw_2 k_S_parts) rfl rfl rfl (by decide +kernel) ⟨Nat.le_of_ble_eq_true rfl, Nat.le_of_ble_eq_true rfl⟩) hK hN (hW.1.sub [1] rfl) rfl rfl rfl hl.1 rfl (Nat.le_of_ble_eq_true rfl) dA_init_31 ⟨Nat.le_of_ble_eq_true rfl, Nat.le_of_ble_eq_true rfl⟩ (fun r2 hp => ?_)
  subst hp
  refine k_putF (ty := .int) (ws' := [(h0, .inr (2, [.ref b1, .int (iI a1), .int (iI a2), .ref q1, .int (iI 0), .int (iI 1)])), (b1, .inr (1, [.int (iI a0), .int (iI a1), .int (iI a2), .int (iI a3), .int (iI a4), .ref e5, .ref e6, .ref e7, .ref e8])), (q1, .inl (k1, 4, .inl (fun j => iI (z0 j))))]) (ci := 2) (C := R_A) (T := T_A) (N := 6) hx hb hts (fun w q => gG_in (inG_A w q)) ty_A tk_A nm_A hown hK hW 0 rfl rfl 2 (by decide) (hts _ (gG_in mw_87)) rfl hin rfl (by decide +kernel) rfl rfl (Nat.le_of_ble_eq_true rfl) rfl dA_init_34 (fun H locs hW => ?_)
  refine W.widen (k := 1) (n := 4) (Nat.le_of_ble_eq_true rfl) (Nat.le_of_ble_eq_true rfl) ?_
  exact k_cret (g := g_A_init h0 b1 a0 a1 a2 a3 a4 e5 e6 e7 e8) (ty := t_A_init) hx hb hr hlocks (fun k => [q1].getD k 0) (fun k => [k1].getD k 0) (hW.perm [0, 1, 2] (by decide) rfl rfl) hK dA_init_37
def g_S_init (h0 : Nat) (p0 p1 : Int) (ad : Nat → Nat) (kc : Nat → ClassId) : va_W := [(h0, .inr (1, [.int (iI p0), .int (iI p1), .int (iI (sN p0)), .int (iI (sR p0 p1)), .int (iI (p1 + 2)), .ref (ad 0), .ref (ad 1), .ref (ad 2), .ref (ad 3)])), (ad 0, .inl (kc 0, ((p0 * (p1 + 2)) * (p1 + 2)).toNat, .inl (fun j => iI (z0 j)))), (ad 1, .inl (kc 1, ((p0 * (sR p0 p1)) * (sR p0 p1)).toNat, .inl (fun j => iI (z0 j)))), (ad 2, .inl (kc 2, p0.toNat, .inl (fun j => iI (fS p0 j)))), (ad 3, .inl (kc 3, (p1 + 2).toNat, .inl (fun j => iI (z0 j))))]
def t_S_init (kc : Nat → ClassId) : List (ClassId × FieldType) := [(kc 0, .boolean), (kc 1, .int), (kc 2, .boolean), (kc 3, .int)]
abbrev rm_S_init : Room := { frames := 1, cells := 4, slots := 4436, locals := 16 }
set_option maxHeartbeats 4000000 in
set_option maxRecDepth 100000 in
theorem c_S_init (l : Launch) (dC : Nat → ClassId) (dI : Nat → Nat → Nat) (h0 : Nat) (p0 p1 : Int) (hn : 1 ≤ p0 ∧ p0 ≤ 4) (hd : 1 ≤ p1 ∧ p1 ≤ 10) : kMc l y_S_init ws_S_init rm_S_init (dC, dI) vwC nsG h0 (.inr (1, [.int (iI 0), .int (iI 0), .int (iI 0), .int (iI 0), .int (iI 0), .null, .null, .null, .null])) [.int (iI p0), .int (iI p1)] (g_S_init h0 p0 p1) t_S_init 4 4436 := by
  intro sz
  refine k_enterC (cc := b_S_init) (maxL := 4) (by decide) rfl (Nat.le_of_ble_eq_true rfl) rfl ?_
  intro p e s m below meth c ls S hr hlocks hin hA hW hK hN hl
  generalize va_A [(h0, (.inr (1, [.int (iI 0), .int (iI 0), .int (iI 0), .int (iI 0), .int (iI 0), .null, .null, .null, .null])))] sz = A at hA hW ⊢
  generalize ([.ref h0, .int (iI p0), .int (iI p1)] : List Value).toArray = args at S ⊢
  obtain ⟨hx, hb, hml, hown, hts⟩ := id S
  have hl : lv_has ls 4 [(0, .ref h0), (1, .int (iI p0)), (2, .int (iI p1))] := hl
  have b8 := b8_in hn hd
  have b9 := b9_in hn hd
  have b1 := sN_in hn
  have b2 := sR_in hn hd
  refine lv_aload_n hx hb dS_init_0 rfl (lv_at hl 0 rfl) ?_
  refine W.objInit hx hb hown (hts _ (gG_in mw_39)) (hts _ (gG_in mw_23)) (hts _ (gG_in k_obj)) rfl (by rw [hml]; exact hl.1) rfl dS_init_1 (Nat.le_of_ble_eq_true rfl) (Nat.le_of_ble_eq_true rfl) ?_
  refine W.eq (g2 := F0 m 4 ls []) rfl ?_
  refine lv_aload_n hx hb dS_init_4 rfl (lv_at hl 0 rfl) ?_
  refine lv_iload_n hx hb dS_init_5 rfl (lv_at hl 1 rfl) ?_
  refine k_putF (ty := .int) (ws' := [(h0, .inr (1, [.int (iI p0), .int (iI 0), .int (iI 0), .int (iI 0), .int (iI 0), .null, .null, .null, .null]))]) (ci := 1) (C := R_S) (T := T_S) (N := 9) hx hb hts (fun w q => gG_in (inG_S w q)) ty_S tk_S nm_S hown hK hW 0 rfl rfl 0 (by decide) (hts _ (gG_in mw_41)) rfl hin rfl (by decide +kernel) rfl rfl (Nat.le_of_ble_eq_true rfl) rfl dS_init_6 (fun H locs hW => ?_)
  refine lv_aload_n hx hb dS_init_9 rfl (lv_at hl 0 rfl) ?_
  refine lv_iload_n hx hb dS_init_10 rfl (lv_at hl 2 rfl) ?_
  refine k_putF (ty := .int) (ws' := [(h0, .inr (1, [.int (iI p0), .int (iI p1), .int (iI 0), .int (iI 0), .int (iI 0), .null, .null, .null, .null]))]) (ci := 1) (C := R_S) (T := T_S) (N := 9) hx hb hts (fun w q => gG_in (inG_S w q)) ty_S tk_S nm_S hown hK hW 0 rfl rfl 1 (by decide) (hts _ (gG_in mw_42)) rfl hin rfl (by decide +kernel) rfl rfl (Nat.le_of_ble_eq_true rfl) rfl dS_init_11 (fun H locs hW => ?_)
  refine lv_aload_n hx hb dS_init_14 rfl (lv_at hl 0 rfl) ?_
  refine lv_iconst (v := iI 1) hx hb dS_init_15 rfl ?_
  refine lv_iload_n hx hb dS_init_16 rfl (lv_at hl 1 rfl) ?_
  refine lv_iconst (v := iI 1) hx hb dS_init_17 rfl ?_
  refine ki_sub hx hb dS_init_18 ?_
  refine kmx hx hb (hml.trans hl.1.symm) hown (hts _ (gG_in mw_40)) (hts _ (gG_in mw_34)) (hts _ (gG_in mw_3)) (hts _ (gG_in mk_max)) ⟨Nat.le_of_ble_eq_true rfl, Nat.le_of_ble_eq_true rfl⟩ ⟨Nat.le_of_ble_eq_true rfl, Nat.le_of_ble_eq_true rfl⟩ (by constructor <;> decide) ⟨by omega, by omega⟩ dS_init_19 ?_
  refine k_putF (ty := .int) (ws' := [(h0, .inr (1, [.int (iI p0), .int (iI p1), .int (iI (sN p0)), .int (iI 0), .int (iI 0), .null, .null, .null, .null]))]) (ci := 1) (C := R_S) (T := T_S) (N := 9) hx hb hts (fun w q => gG_in (inG_S w q)) ty_S tk_S nm_S hown hK hW 0 rfl rfl 2 (by decide) (hts _ (gG_in mw_43)) rfl hin rfl (by decide +kernel) rfl rfl (Nat.le_of_ble_eq_true rfl) rfl dS_init_22 (fun H locs hW => ?_)
  refine lv_aload_n hx hb dS_init_25 rfl (lv_at hl 0 rfl) ?_
  refine lv_iload_n hx hb dS_init_26 rfl (lv_at hl 2 rfl) ?_
  refine lv_aload_n hx hb dS_init_27 rfl (lv_at hl 0 rfl) ?_
  refine k_get (ci := 1) (C := R_S) (T := T_S) (N := 9) hx hb hts (fun w q => gG_in (inG_S w q)) hown hK hW.1 0 rfl rfl 2 (by decide) (hts _ (gG_in mw_43)) rfl dS_init_28 ?_
  refine ki_mul hx hb dS_init_31 ?_
  refine lv_iconst (v := iI 1) hx hb dS_init_32 rfl ?_
  refine ki_add hx hb dS_init_33 ?_
  refine k_putF (ty := .int) (ws' := [(h0, .inr (1, [.int (iI p0), .int (iI p1), .int (iI (sN p0)), .int (iI (sR p0 p1)), .int (iI 0), .null, .null, .null, .null]))]) (ci := 1) (C := R_S) (T := T_S) (N := 9) hx hb hts (fun w q => gG_in (inG_S w q)) ty_S tk_S nm_S hown hK hW 0 rfl rfl 3 (by decide) (hts _ (gG_in mw_44)) rfl hin rfl (by decide +kernel) rfl rfl (Nat.le_of_ble_eq_true rfl) rfl dS_init_34 (fun H locs hW => ?_)
  refine lv_aload_n hx hb dS_init_37 rfl (lv_at hl 0 rfl) ?_
  refine lv_iload_n hx hb dS_init_38 rfl (lv_at hl 2 rfl) ?_
  refine lv_iconst (v := iI 2) hx hb dS_init_39 rfl ?_
  refine ki_add hx hb dS_init_40 ?_
  refine k_putF (ty := .int) (ws' := [(h0, .inr (1, [.int (iI p0), .int (iI p1), .int (iI (sN p0)), .int (iI (sR p0 p1)), .int (iI (p1 + 2)), .null, .null, .null, .null]))]) (ci := 1) (C := R_S) (T := T_S) (N := 9) hx hb hts (fun w q => gG_in (inG_S w q)) ty_S tk_S nm_S hown hK hW 0 rfl rfl 4 (by decide) (hts _ (gG_in mw_45)) rfl hin rfl (by decide +kernel) rfl rfl (Nat.le_of_ble_eq_true rfl) rfl dS_init_41 (fun H locs hW => ?_)
  refine lv_aload_n hx hb dS_init_44 rfl (lv_at hl 0 rfl) ?_
  refine lv_iload_n hx hb dS_init_45 rfl (lv_at hl 1 rfl) ?_
  refine lv_aload_n hx hb dS_init_46 rfl (lv_at hl 0 rfl) ?_
  refine k_get (ci := 1) (C := R_S) (T := T_S) (N := 9) hx hb hts (fun w q => gG_in (inG_S w q)) hown hK hW.1 0 rfl rfl 4 (by decide) (hts _ (gG_in mw_45)) rfl dS_init_47 ?_
  refine ki_mul hx hb dS_init_50 ?_
  refine lv_aload_n hx hb dS_init_51 rfl (lv_at hl 0 rfl) ?_
  refine k_get (ci := 1) (C := R_S) (T := T_S) (N := 9) hx hb hts (fun w q => gG_in (inG_S w q)) hown hK hW.1 0 rfl rfl 4 (by decide) (hts _ (gG_in mw_45)) rfl dS_init_52 ?_
  refine ki_mul hx hb dS_init_55 ?_
  refine k_newa (atype := .boolean) (ty := .boolean) (a0 := (((p0 * (p1 + 2)) * (p1 + 2)).toNat, .inl (fun _ => iI 0))) (N' := ((p0 * (p1 + 2)) * (p1 + 2)).toNat) hx hb (hts _ (gG_in mw_69)) rfl hK hW hA (fun _ => rfl) ⟨⟨by omega, by omega⟩, by omega, rfl⟩ (by show ((p0 * (p1 + 2)) * (p1 + 2)).toNat * 1 ≤ 536870912; omega) (Nat.le_of_ble_eq_true rfl) (by show 0 + ((p0 * (p1 + 2)) * (p1 + 2)).toNat ≤ _; show 0 + ((p0 * (p1 + 2)) * (p1 + 2)).toNat ≤ 4436; omega) dS_init_56 (fun q1 k1 H hK hW => ?_)
  have hK : va_K (dC, dI) vwC [(k1, .boolean)] s := hK
  have hW : kW (dC, dI) vwC A s.heap [(h0, .inr (1, [.int (iI p0), .int (iI p1), .int (iI (sN p0)), .int (iI (sR p0 p1)), .int (iI (p1 + 2)), .null, .null, .null, .null])), (q1, .inl (k1, ((p0 * (p1 + 2)) * (p1 + 2)).toNat, .inl (fun j => iI (z0 j))))] H locs := hW
  refine W.widen (k := 1) (n := 576) (Nat.le_of_ble_eq_true rfl) (by show 0 + ((p0 * (p1 + 2)) * (p1 + 2)).toNat ≤ 576; omega) ?_
  refine k_putF (ty := .array .boolean) (ws' := [(h0, .inr (1, [.int (iI p0), .int (iI p1), .int (iI (sN p0)), .int (iI (sR p0 p1)), .int (iI (p1 + 2)), .ref q1, .null, .null, .null])), (q1, .inl (k1, ((p0 * (p1 + 2)) * (p1 + 2)).toNat, .inl (fun j => iI (z0 j))))]) (ci := 1) (C := R_S) (T := T_S) (N := 9) hx hb hts (fun w q => gG_in (inG_S w q)) ty_S tk_S nm_S hown hK hW 0 rfl rfl 5 (by decide) (hts _ (gG_in mw_46)) rfl hin rfl (by decide +kernel) rfl rfl (Nat.le_of_ble_eq_true rfl) rfl dS_init_58 (fun H locs hW => ?_)
  refine lv_aload_n hx hb dS_init_61 rfl (lv_at hl 0 rfl) ?_
  refine lv_iload_n hx hb dS_init_62 rfl (lv_at hl 1 rfl) ?_
  refine lv_aload_n hx hb dS_init_63 rfl (lv_at hl 0 rfl) ?_
  refine k_get (ci := 1) (C := R_S) (T := T_S) (N := 9) hx hb hts (fun w q => gG_in (inG_S w q)) hown hK hW.1 0 rfl rfl 3 (by decide) (hts _ (gG_in mw_44)) rfl dS_init_64 ?_
  refine ki_mul hx hb dS_init_67 ?_
  refine lv_aload_n hx hb dS_init_68 rfl (lv_at hl 0 rfl) ?_
  refine k_get (ci := 1) (C := R_S) (T := T_S) (N := 9) hx hb hts (fun w q => gG_in (inG_S w q)) hown hK hW.1 0 rfl rfl 3 (by decide) (hts _ (gG_in mw_44)) rfl dS_init_69 ?_
  refine ki_mul hx hb dS_init_72 ?_
  refine k_newa (atype := .int) (ty := .int) (a0 := (((p0 * (sR p0 p1)) * (sR p0 p1)).toNat, .inl (fun _ => iI 0))) (N' := ((p0 * (sR p0 p1)) * (sR p0 p1)).toNat) hx hb (hts _ (gG_in mw_70)) rfl hK hW hA (fun _ => rfl) ⟨⟨by omega, by omega⟩, by omega, rfl⟩ (by show ((p0 * (sR p0 p1)) * (sR p0 p1)).toNat * 4 ≤ 536870912; omega) (Nat.le_of_ble_eq_true rfl) (by show 576 + ((p0 * (sR p0 p1)) * (sR p0 p1)).toNat ≤ _; show 576 + ((p0 * (sR p0 p1)) * (sR p0 p1)).toNat ≤ 4436; omega) dS_init_73 (fun q2 k2 H hK hW => ?_)
  have hK : va_K (dC, dI) vwC [(k1, .boolean), (k2, .int)] s := hK
  have hW : kW (dC, dI) vwC A s.heap [(h0, .inr (1, [.int (iI p0), .int (iI p1), .int (iI (sN p0)), .int (iI (sR p0 p1)), .int (iI (p1 + 2)), .ref q1, .null, .null, .null])), (q1, .inl (k1, ((p0 * (p1 + 2)) * (p1 + 2)).toNat, .inl (fun j => iI (z0 j)))), (q2, .inl (k2, ((p0 * (sR p0 p1)) * (sR p0 p1)).toNat, .inl (fun j => iI (z0 j))))] H locs := hW
  refine W.widen (k := 2) (n := 4420) (Nat.le_of_ble_eq_true rfl) (by show 576 + ((p0 * (sR p0 p1)) * (sR p0 p1)).toNat ≤ 4420; omega) ?_
  refine k_putF (ty := .array .int) (ws' := [(h0, .inr (1, [.int (iI p0), .int (iI p1), .int (iI (sN p0)), .int (iI (sR p0 p1)), .int (iI (p1 + 2)), .ref q1, .ref q2, .null, .null])), (q1, .inl (k1, ((p0 * (p1 + 2)) * (p1 + 2)).toNat, .inl (fun j => iI (z0 j)))), (q2, .inl (k2, ((p0 * (sR p0 p1)) * (sR p0 p1)).toNat, .inl (fun j => iI (z0 j))))]) (ci := 1) (C := R_S) (T := T_S) (N := 9) hx hb hts (fun w q => gG_in (inG_S w q)) ty_S tk_S nm_S hown hK hW 0 rfl rfl 6 (by decide) (hts _ (gG_in mw_47)) rfl hin rfl (by decide +kernel) rfl rfl (Nat.le_of_ble_eq_true rfl) rfl dS_init_75 (fun H locs hW => ?_)
  refine lv_aload_n hx hb dS_init_78 rfl (lv_at hl 0 rfl) ?_
  refine lv_iload_n hx hb dS_init_79 rfl (lv_at hl 1 rfl) ?_
  refine k_newa (atype := .boolean) (ty := .boolean) (a0 := (p0.toNat, .inl (fun _ => iI 0))) (N' := p0.toNat) hx hb (hts _ (gG_in mw_69)) rfl hK hW hA (fun _ => rfl) ⟨⟨by omega, by omega⟩, by omega, rfl⟩ (by show p0.toNat * 1 ≤ 536870912; omega) (Nat.le_of_ble_eq_true rfl) (by show 4420 + p0.toNat ≤ _; show 4420 + p0.toNat ≤ 4436; omega) dS_init_80 (fun q3 k3 H hK hW => ?_)
  have hK : va_K (dC, dI) vwC [(k1, .boolean), (k2, .int), (k3, .boolean)] s := hK
  have hW : kW (dC, dI) vwC A s.heap [(h0, .inr (1, [.int (iI p0), .int (iI p1), .int (iI (sN p0)), .int (iI (sR p0 p1)), .int (iI (p1 + 2)), .ref q1, .ref q2, .null, .null])), (q1, .inl (k1, ((p0 * (p1 + 2)) * (p1 + 2)).toNat, .inl (fun j => iI (z0 j)))), (q2, .inl (k2, ((p0 * (sR p0 p1)) * (sR p0 p1)).toNat, .inl (fun j => iI (z0 j)))), (q3, .inl (k3, p0.toNat, .inl (fun j => iI (z0 j))))] H locs := hW
  refine W.widen (k := 3) (n := 4424) (Nat.le_of_ble_eq_true rfl) (by show 4420 + p0.toNat ≤ 4424; omega) ?_
  refine k_putF (ty := .array .boolean) (ws' := [(h0, .inr (1, [.int (iI p0), .int (iI p1), .int (iI (sN p0)), .int (iI (sR p0 p1)), .int (iI (p1 + 2)), .ref q1, .ref q2, .ref q3, .null])), (q1, .inl (k1, ((p0 * (p1 + 2)) * (p1 + 2)).toNat, .inl (fun j => iI (z0 j)))), (q2, .inl (k2, ((p0 * (sR p0 p1)) * (sR p0 p1)).toNat, .inl (fun j => iI (z0 j)))), (q3, .inl (k3, p0.toNat, .inl (fun j => iI (z0 j))))]) (ci := 1) (C := R_S) (T := T_S) (N := 9) hx hb hts (fun w q => gG_in (inG_S w q)) ty_S tk_S nm_S hown hK hW 0 rfl rfl 7 (by decide) (hts _ (gG_in mw_48)) rfl hin rfl (by decide +kernel) rfl rfl (Nat.le_of_ble_eq_true rfl) rfl dS_init_82 (fun H locs hW => ?_)
  refine lv_iconst (v := iI 0) hx hb dS_init_85 rfl ?_
  refine lv_istore_n (lv' := [(3, .int (iI 0)), (0, .ref h0), (1, .int (iI p0)), (2, .int (iI p1))]) hx hb dS_init_86 rfl hl (by decide) rfl (fun ls hl => ?_)
  have hW : kW (dC, dI) vwC A s.heap [(h0, .inr (1, [.int (iI p0), .int (iI p1), .int (iI (sN p0)), .int (iI (sR p0 p1)), .int (iI (p1 + 2)), .ref q1, .ref q2, .ref q3, .null])), (q1, .inl (k1, ((p0 * (p1 + 2)) * (p1 + 2)).toNat, .inl (fun j => iI (z0 j)))), (q2, .inl (k2, ((p0 * (sR p0 p1)) * (sR p0 p1)).toNat, .inl (fun j => iI (z0 j)))), (q3, .inl (k3, p0.toNat, .inl (fun j => iI (fS 0 j))))] H locs := by rw [show fS 0 = z0 from fS_0]; exact hW
  have lW : ∀ (k : Nat) (v : Int) (H : Heap) (locs : List Loc) (ls : Array Slot), 0 ≤ v → v ≤ p0 → p0 - v < k → kW (dC, dI) vwC A s.heap [(h0, .inr (1, [.int (iI p0), .int (iI p1), .int (iI (sN p0)), .int (iI (sR p0 p1)), .int (iI (p1 + 2)), .ref q1, .ref q2, .ref q3, .null])), (q1, .inl (k1, ((p0 * (p1 + 2)) * (p1 + 2)).toNat, .inl (fun j => iI (z0 j)))), (q2, .inl (k2, ((p0 * (sR p0 p1)) * (sR p0 p1)).toNat, .inl (fun j => iI (z0 j)))), (q3, .inl (k3, p0.toNat, .inl (fun j => iI (fS v j))))] H locs → lv_has ls 4 [(3, .int (iI v)), (0, .ref h0), (1, .int (iI p0)), (2, .int (iI p1))] → W p l e (headSpec ws_S_init rm_S_init).room s m args below meth c H locs 3 4424 (MQ below (va_Qv (S := (Nat → Nat) × (Nat → ClassId)) (fun _ => True) (fun u t => va_P (dC, dI) vwC (g_S_init h0 p0 p1 u.1 u.2) t.heap ∧ va_K (dC, dI) vwC (t_S_init u.2) t ∧ va_D A (g_S_init h0 p0 p1 u.1 u.2)) A) args s 4 4436 A) (F0 m 87 ls []) := by
    intro k
    induction k with
    | zero => intro v H locs ls h0v hv hk; exact absurd hk (by omega)
    | succ k ih =>
      intro v H locs ls h0v hv hk hW hl
      refine lv_iload_n hx hb dS_init_87 rfl (lv_at hl 0 rfl) ?_
      refine lv_iload_n hx hb dS_init_88 rfl (lv_at hl 2 rfl) ?_
      refine ki_icmp_ge (tgt := 105) hx hb dS_init_89 (by decide) ⟨by omega, by omega⟩ ⟨by omega, by omega⟩ (fun c1 => ?_) (fun c1 => ?_)
      · have hvp : v = p0 := by omega
        subst hvp
        refine lv_aload_n hx hb dS_init_105 rfl (lv_at hl 1 rfl) ?_
        refine lv_aload_n hx hb dS_init_106 rfl (lv_at hl 1 rfl) ?_
        refine k_get (ci := 1) (C := R_S) (T := T_S) (N := 9) hx hb hts (fun w q => gG_in (inG_S w q)) hown hK hW.1 0 rfl rfl 4 (by decide) (hts _ (gG_in mw_45)) rfl dS_init_107 ?_
        refine k_newa (atype := .int) (ty := .int) (a0 := ((p1 + 2).toNat, .inl (fun _ => iI 0))) (N' := (p1 + 2).toNat) hx hb (hts _ (gG_in mw_70)) rfl hK hW hA (fun _ => rfl) ⟨⟨by omega, by omega⟩, by omega, rfl⟩ (by show (p1 + 2).toNat * 4 ≤ 536870912; omega) (Nat.le_of_ble_eq_true rfl) (by show 4424 + (p1 + 2).toNat ≤ 4436; omega) dS_init_110 (fun q4 k4 H hK hW => ?_)
        have hK : va_K (dC, dI) vwC [(k1, .boolean), (k2, .int), (k3, .boolean), (k4, .int)] s := hK
        have hW : kW (dC, dI) vwC A s.heap [(h0, .inr (1, [.int (iI v), .int (iI p1), .int (iI (sN v)), .int (iI (sR v p1)), .int (iI (p1 + 2)), .ref q1, .ref q2, .ref q3, .null])), (q1, .inl (k1, ((v * (p1 + 2)) * (p1 + 2)).toNat, .inl (fun j => iI (z0 j)))), (q2, .inl (k2, ((v * (sR v p1)) * (sR v p1)).toNat, .inl (fun j => iI (z0 j)))), (q3, .inl (k3, v.toNat, .inl (fun j => iI (fS v j)))), (q4, .inl (k4, (p1 + 2).toNat, .inl (fun j => iI (z0 j))))] H locs := hW
        refine W.widen (k := 4) (n := 4436) (Nat.le_of_ble_eq_true rfl) (by show 4424 + (p1 + 2).toNat ≤ 4436; omega) ?_
        refine k_putF (ty := .array .int) (ws' := [(h0, .inr (1, [.int (iI v), .int (iI p1), .int (iI (sN v)), .int (iI (sR v p1)), .int (iI (p1 + 2)), .ref q1, .ref q2, .ref q3, .ref q4])), (q1, .inl (k1, ((v * (p1 + 2)) * (p1 + 2)).toNat, .inl (fun j => iI (z0 j)))), (q2, .inl (k2, ((v * (sR v p1)) * (sR v p1)).toNat, .inl (fun j => iI (z0 j)))), (q3, .inl (k3, v.toNat, .inl (fun j => iI (fS v j)))), (q4, .inl (k4, (p1 + 2).toNat, .inl (fun j => iI (z0 j))))]) (ci := 1) (C := R_S) (T := T_S) (N := 9) hx hb hts (fun w q => gG_in (inG_S w q)) ty_S tk_S nm_S hown hK hW 0 rfl rfl 8 (by decide) (hts _ (gG_in mw_49)) rfl hin rfl (by decide +kernel) rfl rfl (Nat.le_of_ble_eq_true rfl) rfl dS_init_112 (fun H locs hW => ?_)
        refine W.widen (k := 4) (n := 4436) (Nat.le_of_ble_eq_true rfl) (Nat.le_of_ble_eq_true rfl) ?_
        exact k_cret (g := g_S_init h0 v p1) (ty := t_S_init) hx hb hr hlocks (fun k => [q1, q2, q3, q4].getD k 0) (fun k => [k1, k2, k3, k4].getD k 0) (hW.perm [0, 1, 2, 3, 4] (by decide) rfl rfl) hK dS_init_115
      · skip
        refine lv_aload_n hx hb dS_init_92 rfl (lv_at hl 1 rfl) ?_
        refine k_get (ci := 1) (C := R_S) (T := T_S) (N := 9) hx hb hts (fun w q => gG_in (inG_S w q)) hown hK hW.1 0 rfl rfl 7 (by decide) (hts _ (gG_in mw_48)) rfl dS_init_93 ?_
        refine lv_iload_n hx hb dS_init_96 rfl (lv_at hl 0 rfl) ?_
        refine lv_iconst (v := iI 1) hx hb dS_init_97 rfl ?_
        refine k_zast (ws' := [(h0, .inr (1, [.int (iI p0), .int (iI p1), .int (iI (sN p0)), .int (iI (sR p0 p1)), .int (iI (p1 + 2)), .ref q1, .ref q2, .ref q3, .null])), (q1, .inl (k1, ((p0 * (p1 + 2)) * (p1 + 2)).toNat, .inl (fun j => iI (z0 j)))), (q2, .inl (k2, ((p0 * (sR p0 p1)) * (sR p0 p1)).toNat, .inl (fun j => iI (z0 j)))), (q3, .inl (k3, p0.toNat, .inl (fun j => iI (fS (v + 1) j))))]) hx hb hK hW 3 2 (fS v) rfl rfl ⟨by omega, by omega, by omega⟩ (by decide) (by rw [fS_s h0v]; rfl) dS_init_98 (fun H locs hW => ?_)
        refine lv_iinc (v := iI (v + 1)) (lv' := [(3, .int (iI (v + 1))), (0, .ref h0), (1, .int (iI p0)), (2, .int (iI p1))]) hx hb dS_init_99 hl (k := 0) rfl (by rw [← iI_add]; rfl) (by decide) rfl (fun ls hl => ?_)
        refine lv_goto (tgt := 87) hx hb dS_init_102 (by decide) ?_
        exact ih (v + 1) H locs ls (by omega) (by omega) (by omega) hW hl
  exact lW (p0.toNat + 1) 0 _ _ ls (by omega) (by omega) (by omega) hW hl
def g_P_init (h0 : Nat) (p0 p1 : Int) (ad : Nat → Nat) (kc : Nat → ClassId) : va_W := [(h0, .inr (0, [.ref (ad 1), .ref (ad 2), .ref (ad 3), .ref (ad 4), .ref (ad 5), .ref (ad 6), .ref (ad 7)])), (ad 1, .inr (1, [.int (iI (cl1 p0 4)), .int (iI (cl1 p1 10)), .int (iI (sN (cl1 p0 4))), .int (iI (sR (cl1 p0 4) (cl1 p1 10))), .int (iI ((cl1 p1 10) + 2)), .ref (ad 8), .ref (ad 9), .ref (ad 10), .ref (ad 11)])), (ad 2, .inr (2, [.ref (ad 1), .int (iI (cl1 p1 10)), .int (iI (sN (cl1 p0 4))), .ref (ad 12), .int (iI 0), .int (iI 1)])), (ad 3, .inr (3, [.int (iI 0), .int (iI 0), .int (iI 1), .int (iI 0)])), (ad 4, .inr (4, [.ref (ad 13), .ref (ad 14), .ref (ad 15), .int (iI 0)])), (ad 5, .inr (5, [.ref (ad 16), .ref (ad 17), .ref (ad 18), .int (iI 0)])), (ad 6, .inr (6, [.ref (ad 19), .ref (ad 20), .ref (ad 21), .ref (ad 22), .ref (ad 23), .int (iI 0), .int (iI 0), .int (iI 0), .int (iI 0), .int (iI 0)])), (ad 7, .inr (7, [.ref (ad 24), .ref (ad 25), .int (iI 0)])), (ad 8, .inl (kc 8, (((cl1 p0 4) * ((cl1 p1 10) + 2)) * ((cl1 p1 10) + 2)).toNat, .inl (fun j => iI (z0 j)))), (ad 9, .inl (kc 9, (((cl1 p0 4) * (sR (cl1 p0 4) (cl1 p1 10))) * (sR (cl1 p0 4) (cl1 p1 10))).toNat, .inl (fun j => iI (z0 j)))), (ad 10, .inl (kc 10, (cl1 p0 4).toNat, .inl (fun j => iI (fS (cl1 p0 4) j)))), (ad 11, .inl (kc 11, ((cl1 p1 10) + 2).toNat, .inl (fun j => iI (z0 j)))), (ad 12, .inl (kc 12, 4, .inl (fun j => iI (z0 j)))), (ad 13, .inl (kc 13, 16, .inl (fun j => iI (z0 j)))), (ad 14, .inl (kc 14, 16, .inl (fun j => iI (z0 j)))), (ad 15, .inl (kc 15, 16, .inl (fun j => iI (z0 j)))), (ad 16, .inl (kc 16, 6, .inl (fun j => iI (z0 j)))), (ad 17, .inl (kc 17, 6, .inl (fun j => iI (z0 j)))), (ad 18, .inl (kc 18, 6, .inl (fun j => iI (z0 j)))), (ad 19, .inl (kc 19, 2000, .inl (fun j => iI (z0 j)))), (ad 20, .inl (kc 20, 2001, .inr (.inl (fun j => lI (z0 j))))), (ad 21, .inl (kc 21, 2000, .inl (fun j => iI (z0 j)))), (ad 22, .inl (kc 22, 2000, .inl (fun j => iI (z0 j)))), (ad 23, .inl (kc 23, 6, .inl (fun j => iI (z0 j)))), (ad 24, .inl (kc 24, 8, .inl (fun j => iI (z0 j)))), (ad 25, .inl (kc 25, 8, .inl (fun j => iI (z0 j))))]
def t_P_init (kc : Nat → ClassId) : List (ClassId × FieldType) := [(kc 8, .boolean), (kc 9, .int), (kc 10, .boolean), (kc 11, .int), (kc 12, .int), (kc 13, .int), (kc 14, .int), (kc 15, .int), (kc 16, .int), (kc 17, .int), (kc 18, .int), (kc 19, .int), (kc 20, .long), (kc 21, .int), (kc 22, .int), (kc 23, .int), (kc 24, .int), (kc 25, .int)]
abbrev rm_P_init : Room := { frames := 2, cells := 25, slots := 12569, locals := 41 }
set_option maxHeartbeats 4000000 in
set_option maxRecDepth 100000 in
theorem c_P_init (l : Launch) (dC : Nat → ClassId) (dI : Nat → Nat → Nat) (h0 : Nat) (p0 p1 : Int) (hp0 : iR p0) (hp1 : iR p1) : kMc l y_P_init ws_P_init rm_P_init (dC, dI) vwC nsG h0 (.inr (0, [.null, .null, .null, .null, .null, .null, .null])) [.int (iI p0), .int (iI p1)] (g_P_init h0 p0 p1) t_P_init 25 12569 := by
  intro sz
  refine k_enterC (cc := b_P_init) (maxL := 4) (by decide) rfl (Nat.le_of_ble_eq_true rfl) rfl ?_
  intro p e s m below meth c ls S hr hlocks hin hA hW hK hN hl
  generalize va_A [(h0, (.inr (0, [.null, .null, .null, .null, .null, .null, .null])))] sz = A at hA hW ⊢
  generalize ([.ref h0, .int (iI p0), .int (iI p1)] : List Value).toArray = args at S ⊢
  obtain ⟨hx, hb, hml, hown, hts⟩ := id S
  have hl : lv_has ls 4 [(0, .ref h0), (1, .int (iI p0)), (2, .int (iI p1))] := hl
  refine lv_aload_n hx hb dP_init_0 rfl (lv_at hl 0 rfl) ?_
  refine W.objInit hx hb hown (hts _ (gG_in mw_22)) (hts _ (gG_in mw_23)) (hts _ (gG_in k_obj)) rfl (by rw [hml]; exact hl.1) rfl dP_init_1 (Nat.le_of_ble_eq_true rfl) (Nat.le_of_ble_eq_true rfl) ?_
  refine W.eq (g2 := F0 m 4 ls []) rfl ?_
  refine k_new (ci := 1) (fs := [.int (iI 0), .int (iI 0), .int (iI 0), .int (iI 0), .int (iI 0), .null, .null, .null, .null]) (C := R_S) (T := T_S) (N := 9) hx hb hts (fun w q => gG_in (inG_S w q)) ty_S tk_S hown (hts _ (gG_in mw_25)) (hts _ (gG_in mw_26)) (hts _ (gG_in mw_2)) hK hW hA rfl fs_S (Nat.le_of_ble_eq_true rfl) (Nat.le_of_ble_eq_true rfl) dP_init_4 (fun q1 H hW => ?_)
  have hW : kW (dC, dI) vwC A s.heap [(h0, .inr (0, [.null, .null, .null, .null, .null, .null, .null])), (q1, .inr (1, [.int (iI 0), .int (iI 0), .int (iI 0), .int (iI 0), .int (iI 0), .null, .null, .null, .null]))] H [] := hW
  refine lv_dup hx hb dP_init_7 rfl ?_
  refine lv_iload_n hx hb dP_init_8 rfl (lv_at hl 1 rfl) ?_
  refine lv_iconst (v := iI 1) hx hb dP_init_9 rfl ?_
  refine lv_iconst (v := iI 4) hx hb dP_init_10 rfl ?_
  refine kc_sp (As := [.int (iI p0), .int (iI 1), .int (iI 4)]) (rest := [.ref q1, .ref q1]) S (c_P_nearestOf l dC dI [] (fun _ => [(h0, .inr (0, [.null, .null, .null, .null, .null, .null, .null])), (q1, .inr (1, [.int (iI 0), .int (iI 0), .int (iI 0), .int (iI 0), .int (iI 0), .null, .null, .null, .null]))]) (fun _ => 0) (fun _ _ => 0) p0 1 4 (P := fun r => r = cl1 p0 4) (cl1_ok hp0 4 (by constructor <;> decide) (by decide))) (cwS 3 hts (gS mw_27 mw_28 mw_1 k_P_nearestOf) rfl rfl rfl (by decide +kernel) ⟨Nat.le_of_ble_eq_true rfl, Nat.le_of_ble_eq_true rfl⟩) hK hN hW.1 rfl hl.1 rfl (Nat.le_of_ble_eq_true rfl) dP_init_11 ⟨Nat.le_of_ble_eq_true rfl, Nat.le_of_ble_eq_true rfl⟩ (fun r1 hp => ?_)
  subst hp
  refine lv_iload_n hx hb dP_init_14 rfl (lv_at hl 2 rfl) ?_
  refine lv_iconst (v := iI 1) hx hb dP_init_15 rfl ?_
  refine lv_bipush (v := iI 10) hx hb dP_init_16 (by decide) ?_
  refine kc_sp (As := [.int (iI p1), .int (iI 1), .int (iI 10)]) (rest := [.int (iI (cl1 p0 4)), .ref q1, .ref q1]) S (c_P_nearestOf l dC dI [] (fun _ => [(h0, .inr (0, [.null, .null, .null, .null, .null, .null, .null])), (q1, .inr (1, [.int (iI 0), .int (iI 0), .int (iI 0), .int (iI 0), .int (iI 0), .null, .null, .null, .null]))]) (fun _ => 0) (fun _ _ => 0) p1 1 10 (P := fun r => r = cl1 p1 10) (cl1_ok hp1 10 (by constructor <;> decide) (by decide))) (cwS 3 hts (gS mw_27 mw_28 mw_1 k_P_nearestOf) rfl rfl rfl (by decide +kernel) ⟨Nat.le_of_ble_eq_true rfl, Nat.le_of_ble_eq_true rfl⟩) hK hN hW.1 rfl hl.1 rfl (Nat.le_of_ble_eq_true rfl) dP_init_18 ⟨Nat.le_of_ble_eq_true rfl, Nat.le_of_ble_eq_true rfl⟩ (fun r2 hp => ?_)
  subst hp
  refine kc_I (fun hM hp => va_runI (As := [.int (iI (cl1 p0 4)), .int (iI (cl1 p1 10))]) (rest := [.ref q1]) S (hM H.size) (cwI 2 hts (gG_good k_S_init) rfl rfl rfl (hts _ (gG_in mw_2)) (hts _ (gG_in mw_36)) (hts _ (gG_in mw_37)) rfl (by decide +kernel) ⟨Nat.le_of_ble_eq_true rfl, Nat.le_of_ble_eq_true rfl⟩) hp rfl rfl hl.1 rfl (lv_room (Nat.le_of_ble_eq_true rfl)) dP_init_21 ⟨Nat.le_of_ble_eq_true rfl, Nat.le_of_ble_eq_true rfl⟩) (c_S_init l dC dI q1 (cl1 p0 4) (cl1 p1 10) (cl1_in _ 4 (by decide)) (cl1_in _ 10 (by decide))) hK hN hA hW 1 [0] (wr := [(h0, .inr (0, [.null, .null, .null, .null, .null, .null, .null]))]) rfl rfl (by decide) (by decide) (fun ad1 kc1 H locs hK hW => ?_)
  have hK : va_K (dC, dI) vwC [(kc1 0, .boolean), (kc1 1, .int), (kc1 2, .boolean), (kc1 3, .int)] s := hK
  have hW : kW (dC, dI) vwC A s.heap [(h0, .inr (0, [.null, .null, .null, .null, .null, .null, .null])), (q1, .inr (1, [.int (iI (cl1 p0 4)), .int (iI (cl1 p1 10)), .int (iI (sN (cl1 p0 4))), .int (iI (sR (cl1 p0 4) (cl1 p1 10))), .int (iI ((cl1 p1 10) + 2)), .ref (ad1 0), .ref (ad1 1), .ref (ad1 2), .ref (ad1 3)])), (ad1 0, .inl (kc1 0, (((cl1 p0 4) * ((cl1 p1 10) + 2)) * ((cl1 p1 10) + 2)).toNat, .inl (fun j => iI (z0 j)))), (ad1 1, .inl (kc1 1, (((cl1 p0 4) * (sR (cl1 p0 4) (cl1 p1 10))) * (sR (cl1 p0 4) (cl1 p1 10))).toNat, .inl (fun j => iI (z0 j)))), (ad1 2, .inl (kc1 2, (cl1 p0 4).toNat, .inl (fun j => iI (fS (cl1 p0 4) j)))), (ad1 3, .inl (kc1 3, ((cl1 p1 10) + 2).toNat, .inl (fun j => iI (z0 j))))] H locs := hW
  refine lv_astore_n (lv' := [(3, .ref q1), (0, .ref h0), (1, .int (iI p0)), (2, .int (iI p1))]) hx hb dP_init_24 rfl hl (by decide) rfl (fun ls hl => ?_)
  refine lv_aload_n hx hb dP_init_25 rfl (lv_at hl 1 rfl) ?_
  refine lv_aload_n hx hb dP_init_26 rfl (lv_at hl 0 rfl) ?_
  refine k_putF (ty := .object "PeelRibbons$Slices") (ws' := [(h0, .inr (0, [.ref q1, .null, .null, .null, .null, .null, .null])), (q1, .inr (1, [.int (iI (cl1 p0 4)), .int (iI (cl1 p1 10)), .int (iI (sN (cl1 p0 4))), .int (iI (sR (cl1 p0 4) (cl1 p1 10))), .int (iI ((cl1 p1 10) + 2)), .ref (ad1 0), .ref (ad1 1), .ref (ad1 2), .ref (ad1 3)])), (ad1 0, .inl (kc1 0, (((cl1 p0 4) * ((cl1 p1 10) + 2)) * ((cl1 p1 10) + 2)).toNat, .inl (fun j => iI (z0 j)))), (ad1 1, .inl (kc1 1, (((cl1 p0 4) * (sR (cl1 p0 4) (cl1 p1 10))) * (sR (cl1 p0 4) (cl1 p1 10))).toNat, .inl (fun j => iI (z0 j)))), (ad1 2, .inl (kc1 2, (cl1 p0 4).toNat, .inl (fun j => iI (fS (cl1 p0 4) j)))), (ad1 3, .inl (kc1 3, ((cl1 p1 10) + 2).toNat, .inl (fun j => iI (z0 j))))]) (ci := 0) (C := R_P) (T := T_P) (N := 7) hx hb hts (fun w q => gG_in (inG_P w q)) ty_P tk_P nm_P hown hK hW 0 rfl rfl 0 (by decide) (hts _ (gG_in mw_215)) rfl hin rfl (by decide +kernel) rfl rfl (Nat.le_of_ble_eq_true rfl) rfl dP_init_27 (fun H locs hW => ?_)
  refine lv_aload_n hx hb dP_init_30 rfl (lv_at hl 1 rfl) ?_
  refine k_new (ci := 2) (fs := [.null, .int (iI 0), .int (iI 0), .null, .int (iI 0), .int (iI 0)]) (C := R_A) (T := T_A) (N := 6) hx hb hts (fun w q => gG_in (inG_A w q)) ty_A tk_A hown (hts _ (gG_in mw_71)) (hts _ (gG_in mw_72)) (hts _ (gG_in mw_4)) hK hW hA rfl fs_A (Nat.le_of_ble_eq_true rfl) (Nat.le_of_ble_eq_true rfl) dP_init_31 (fun q2 H hW => ?_)
  have hW : kW (dC, dI) vwC A s.heap [(h0, .inr (0, [.ref q1, .null, .null, .null, .null, .null, .null])), (q1, .inr (1, [.int (iI (cl1 p0 4)), .int (iI (cl1 p1 10)), .int (iI (sN (cl1 p0 4))), .int (iI (sR (cl1 p0 4) (cl1 p1 10))), .int (iI ((cl1 p1 10) + 2)), .ref (ad1 0), .ref (ad1 1), .ref (ad1 2), .ref (ad1 3)])), (ad1 0, .inl (kc1 0, (((cl1 p0 4) * ((cl1 p1 10) + 2)) * ((cl1 p1 10) + 2)).toNat, .inl (fun j => iI (z0 j)))), (ad1 1, .inl (kc1 1, (((cl1 p0 4) * (sR (cl1 p0 4) (cl1 p1 10))) * (sR (cl1 p0 4) (cl1 p1 10))).toNat, .inl (fun j => iI (z0 j)))), (ad1 2, .inl (kc1 2, (cl1 p0 4).toNat, .inl (fun j => iI (fS (cl1 p0 4) j)))), (ad1 3, .inl (kc1 3, ((cl1 p1 10) + 2).toNat, .inl (fun j => iI (z0 j)))), (q2, .inr (2, [.null, .int (iI 0), .int (iI 0), .null, .int (iI 0), .int (iI 0)]))] H locs := hW
  refine lv_dup hx hb dP_init_34 rfl ?_
  refine lv_aload_n hx hb dP_init_35 rfl (lv_at hl 0 rfl) ?_
  refine kc_J (fun hM hp => va_runI (As := [.ref q1]) (rest := [.ref q2, .ref h0]) S (hM H.size) (cwI 1 hts (gG_good k_A_init) rfl rfl rfl (hts _ (gG_in mw_4)) (hts _ (gG_in mw_73)) (hts _ (gG_in mw_74)) rfl (by decide +kernel) ⟨Nat.le_of_ble_eq_true rfl, Nat.le_of_ble_eq_true rfl⟩) hp rfl rfl hl.1 rfl (lv_room (Nat.le_of_ble_eq_true rfl)) dP_init_36 ⟨Nat.le_of_ble_eq_true rfl, Nat.le_of_ble_eq_true rfl⟩) (c_A_init l dC dI q2 q1 (cl1 p0 4) (cl1 p1 10) (sN (cl1 p0 4)) (sR (cl1 p0 4) (cl1 p1 10)) ((cl1 p1 10) + 2) (ad1 0) (ad1 1) (ad1 2) (ad1 3)) hK hN hA hW [6, 1] [0, 2, 3, 4, 5] (wr := [(h0, .inr (0, [.ref q1, .null, .null, .null, .null, .null, .null])), (ad1 0, .inl (kc1 0, (((cl1 p0 4) * ((cl1 p1 10) + 2)) * ((cl1 p1 10) + 2)).toNat, .inl (fun j => iI (z0 j)))), (ad1 1, .inl (kc1 1, (((cl1 p0 4) * (sR (cl1 p0 4) (cl1 p1 10))) * (sR (cl1 p0 4) (cl1 p1 10))).toNat, .inl (fun j => iI (z0 j)))), (ad1 2, .inl (kc1 2, (cl1 p0 4).toNat, .inl (fun j => iI (fS (cl1 p0 4) j)))), (ad1 3, .inl (kc1 3, ((cl1 p1 10) + 2).toNat, .inl (fun j => iI (z0 j))))]) rfl rfl (by decide) rfl (by decide) (by decide) (fun ad2 kc2 H locs hK hW => ?_)
  have hK : va_K (dC, dI) vwC [(kc1 0, .boolean), (kc1 1, .int), (kc1 2, .boolean), (kc1 3, .int), (kc2 0, .int)] s := hK
  have hW : kW (dC, dI) vwC A s.heap [(h0, .inr (0, [.ref q1, .null, .null, .null, .null, .null, .null])), (ad1 0, .inl (kc1 0, (((cl1 p0 4) * ((cl1 p1 10) + 2)) * ((cl1 p1 10) + 2)).toNat, .inl (fun j => iI (z0 j)))), (ad1 1, .inl (kc1 1, (((cl1 p0 4) * (sR (cl1 p0 4) (cl1 p1 10))) * (sR (cl1 p0 4) (cl1 p1 10))).toNat, .inl (fun j => iI (z0 j)))), (ad1 2, .inl (kc1 2, (cl1 p0 4).toNat, .inl (fun j => iI (fS (cl1 p0 4) j)))), (ad1 3, .inl (kc1 3, ((cl1 p1 10) + 2).toNat, .inl (fun j => iI (z0 j)))), (q2, .inr (2, [.ref q1, .int (iI (cl1 p1 10)), .int (iI (sN (cl1 p0 4))), .ref (ad2 0), .int (iI 0), .int (iI 1)])), (q1, .inr (1, [.int (iI (cl1 p0 4)), .int (iI (cl1 p1 10)), .int (iI (sN (cl1 p0 4))), .int (iI (sR (cl1 p0 4) (cl1 p1 10))), .int (iI ((cl1 p1 10) + 2)), .ref (ad1 0), .ref (ad1 1), .ref (ad1 2), .ref (ad1 3)])), (ad2 0, .inl (kc2 0, 4, .inl (fun j => iI (z0 j))))] H locs := hW
  refine k_putF (ty := .object "PeelRibbons$Axes") (ws' := [(h0, .inr (0, [.ref q1, .ref q2, .null, .null, .null, .null, .null])), (ad1 0, .inl (kc1 0, (((cl1 p0 4) * ((cl1 p1 10) + 2)) * ((cl1 p1 10) + 2)).toNat, .inl (fun j => iI (z0 j)))), (ad1 1, .inl (kc1 1, (((cl1 p0 4) * (sR (cl1 p0 4) (cl1 p1 10))) * (sR (cl1 p0 4) (cl1 p1 10))).toNat, .inl (fun j => iI (z0 j)))), (ad1 2, .inl (kc1 2, (cl1 p0 4).toNat, .inl (fun j => iI (fS (cl1 p0 4) j)))), (ad1 3, .inl (kc1 3, ((cl1 p1 10) + 2).toNat, .inl (fun j => iI (z0 j)))), (q2, .inr (2, [.ref q1, .int (iI (cl1 p1 10)), .int (iI (sN (cl1 p0 4))), .ref (ad2 0), .int (iI 0), .int (iI 1)])), (q1, .inr (1, [.int (iI (cl1 p0 4)), .int (iI (cl1 p1 10)), .int (iI (sN (cl1 p0 4))), .int (iI (sR (cl1 p0 4) (cl1 p1 10))), .int (iI ((cl1 p1 10) + 2)), .ref (ad1 0), .ref (ad1 1), .ref (ad1 2), .ref (ad1 3)])), (ad2 0, .inl (kc2 0, 4, .inl (fun j => iI (z0 j))))]) (ci := 0) (C := R_P) (T := T_P) (N := 7) hx hb hts (fun w q => gG_in (inG_P w q)) ty_P tk_P nm_P hown hK hW 0 rfl rfl 1 (by decide) (hts _ (gG_in mw_216)) rfl hin rfl (by decide +kernel) rfl rfl (Nat.le_of_ble_eq_true rfl) rfl dP_init_39 (fun H locs hW => ?_)
  refine lv_aload_n hx hb dP_init_42 rfl (lv_at hl 1 rfl) ?_
  refine k_new (ci := 3) (fs := [.int (iI 0), .int (iI 0), .int (iI 0), .int (iI 0)]) (C := R_R) (T := T_R) (N := 4) hx hb hts (fun w q => gG_in (inG_R w q)) ty_R tk_R hown (hts _ (gG_in mw_104)) (hts _ (gG_in mw_105)) (hts _ (gG_in mw_5)) hK hW hA rfl fs_R (Nat.le_of_ble_eq_true rfl) (Nat.le_of_ble_eq_true rfl) dP_init_43 (fun q3 H hW => ?_)
  have hW : kW (dC, dI) vwC A s.heap [(h0, .inr (0, [.ref q1, .ref q2, .null, .null, .null, .null, .null])), (ad1 0, .inl (kc1 0, (((cl1 p0 4) * ((cl1 p1 10) + 2)) * ((cl1 p1 10) + 2)).toNat, .inl (fun j => iI (z0 j)))), (ad1 1, .inl (kc1 1, (((cl1 p0 4) * (sR (cl1 p0 4) (cl1 p1 10))) * (sR (cl1 p0 4) (cl1 p1 10))).toNat, .inl (fun j => iI (z0 j)))), (ad1 2, .inl (kc1 2, (cl1 p0 4).toNat, .inl (fun j => iI (fS (cl1 p0 4) j)))), (ad1 3, .inl (kc1 3, ((cl1 p1 10) + 2).toNat, .inl (fun j => iI (z0 j)))), (q2, .inr (2, [.ref q1, .int (iI (cl1 p1 10)), .int (iI (sN (cl1 p0 4))), .ref (ad2 0), .int (iI 0), .int (iI 1)])), (q1, .inr (1, [.int (iI (cl1 p0 4)), .int (iI (cl1 p1 10)), .int (iI (sN (cl1 p0 4))), .int (iI (sR (cl1 p0 4) (cl1 p1 10))), .int (iI ((cl1 p1 10) + 2)), .ref (ad1 0), .ref (ad1 1), .ref (ad1 2), .ref (ad1 3)])), (ad2 0, .inl (kc2 0, 4, .inl (fun j => iI (z0 j)))), (q3, .inr (3, [.int (iI 0), .int (iI 0), .int (iI 0), .int (iI 0)]))] H locs := hW
  refine lv_dup hx hb dP_init_46 rfl ?_
  refine kc_I (fun hM hp => va_runIN (As := []) (rest := [.ref q3, .ref h0]) S (hM H.size) ⟨va_cnB 0 hts (gG_good k_R_init) rfl rfl rfl (hN _ (List.mem_of_getElem? (i := 0) rfl)) (hts _ (gG_in mw_5)) (by decide +kernel) ⟨Nat.le_of_ble_eq_true rfl, Nat.le_of_ble_eq_true rfl⟩, rfl, (hts _ (gG_in mw_107))⟩ hp rfl rfl hl.1 rfl (lv_room (Nat.le_of_ble_eq_true rfl)) dP_init_47 ⟨Nat.le_of_ble_eq_true rfl, Nat.le_of_ble_eq_true rfl⟩) (c_R_init l dC dI q3) hK hN hA hW 8 [0, 1, 2, 3, 4, 5, 6, 7] (wr := [(h0, .inr (0, [.ref q1, .ref q2, .null, .null, .null, .null, .null])), (ad1 0, .inl (kc1 0, (((cl1 p0 4) * ((cl1 p1 10) + 2)) * ((cl1 p1 10) + 2)).toNat, .inl (fun j => iI (z0 j)))), (ad1 1, .inl (kc1 1, (((cl1 p0 4) * (sR (cl1 p0 4) (cl1 p1 10))) * (sR (cl1 p0 4) (cl1 p1 10))).toNat, .inl (fun j => iI (z0 j)))), (ad1 2, .inl (kc1 2, (cl1 p0 4).toNat, .inl (fun j => iI (fS (cl1 p0 4) j)))), (ad1 3, .inl (kc1 3, ((cl1 p1 10) + 2).toNat, .inl (fun j => iI (z0 j)))), (q2, .inr (2, [.ref q1, .int (iI (cl1 p1 10)), .int (iI (sN (cl1 p0 4))), .ref (ad2 0), .int (iI 0), .int (iI 1)])), (q1, .inr (1, [.int (iI (cl1 p0 4)), .int (iI (cl1 p1 10)), .int (iI (sN (cl1 p0 4))), .int (iI (sR (cl1 p0 4) (cl1 p1 10))), .int (iI ((cl1 p1 10) + 2)), .ref (ad1 0), .ref (ad1 1), .ref (ad1 2), .ref (ad1 3)])), (ad2 0, .inl (kc2 0, 4, .inl (fun j => iI (z0 j))))]) rfl rfl (by decide) (by decide) (fun ad3 kc3 H locs hK hW => ?_)
  have hK : va_K (dC, dI) vwC [(kc1 0, .boolean), (kc1 1, .int), (kc1 2, .boolean), (kc1 3, .int), (kc2 0, .int)] s := hK
  have hW : kW (dC, dI) vwC A s.heap [(h0, .inr (0, [.ref q1, .ref q2, .null, .null, .null, .null, .null])), (ad1 0, .inl (kc1 0, (((cl1 p0 4) * ((cl1 p1 10) + 2)) * ((cl1 p1 10) + 2)).toNat, .inl (fun j => iI (z0 j)))), (ad1 1, .inl (kc1 1, (((cl1 p0 4) * (sR (cl1 p0 4) (cl1 p1 10))) * (sR (cl1 p0 4) (cl1 p1 10))).toNat, .inl (fun j => iI (z0 j)))), (ad1 2, .inl (kc1 2, (cl1 p0 4).toNat, .inl (fun j => iI (fS (cl1 p0 4) j)))), (ad1 3, .inl (kc1 3, ((cl1 p1 10) + 2).toNat, .inl (fun j => iI (z0 j)))), (q2, .inr (2, [.ref q1, .int (iI (cl1 p1 10)), .int (iI (sN (cl1 p0 4))), .ref (ad2 0), .int (iI 0), .int (iI 1)])), (q1, .inr (1, [.int (iI (cl1 p0 4)), .int (iI (cl1 p1 10)), .int (iI (sN (cl1 p0 4))), .int (iI (sR (cl1 p0 4) (cl1 p1 10))), .int (iI ((cl1 p1 10) + 2)), .ref (ad1 0), .ref (ad1 1), .ref (ad1 2), .ref (ad1 3)])), (ad2 0, .inl (kc2 0, 4, .inl (fun j => iI (z0 j)))), (q3, .inr (3, [.int (iI 0), .int (iI 0), .int (iI 1), .int (iI 0)]))] H locs := hW
  refine k_putF (ty := .object "PeelRibbons$Ribbon") (ws' := [(h0, .inr (0, [.ref q1, .ref q2, .ref q3, .null, .null, .null, .null])), (ad1 0, .inl (kc1 0, (((cl1 p0 4) * ((cl1 p1 10) + 2)) * ((cl1 p1 10) + 2)).toNat, .inl (fun j => iI (z0 j)))), (ad1 1, .inl (kc1 1, (((cl1 p0 4) * (sR (cl1 p0 4) (cl1 p1 10))) * (sR (cl1 p0 4) (cl1 p1 10))).toNat, .inl (fun j => iI (z0 j)))), (ad1 2, .inl (kc1 2, (cl1 p0 4).toNat, .inl (fun j => iI (fS (cl1 p0 4) j)))), (ad1 3, .inl (kc1 3, ((cl1 p1 10) + 2).toNat, .inl (fun j => iI (z0 j)))), (q2, .inr (2, [.ref q1, .int (iI (cl1 p1 10)), .int (iI (sN (cl1 p0 4))), .ref (ad2 0), .int (iI 0), .int (iI 1)])), (q1, .inr (1, [.int (iI (cl1 p0 4)), .int (iI (cl1 p1 10)), .int (iI (sN (cl1 p0 4))), .int (iI (sR (cl1 p0 4) (cl1 p1 10))), .int (iI ((cl1 p1 10) + 2)), .ref (ad1 0), .ref (ad1 1), .ref (ad1 2), .ref (ad1 3)])), (ad2 0, .inl (kc2 0, 4, .inl (fun j => iI (z0 j)))), (q3, .inr (3, [.int (iI 0), .int (iI 0), .int (iI 1), .int (iI 0)]))]) (ci := 0) (C := R_P) (T := T_P) (N := 7) hx hb hts (fun w q => gG_in (inG_P w q)) ty_P tk_P nm_P hown hK hW 0 rfl rfl 2 (by decide) (hts _ (gG_in mw_217)) rfl hin rfl (by decide +kernel) rfl rfl (Nat.le_of_ble_eq_true rfl) rfl dP_init_50 (fun H locs hW => ?_)
  refine lv_aload_n hx hb dP_init_53 rfl (lv_at hl 1 rfl) ?_
  refine k_new (ci := 4) (fs := [.null, .null, .null, .int (iI 0)]) (C := R_F) (T := T_F) (N := 4) hx hb hts (fun w q => gG_in (inG_F w q)) ty_F tk_F hown (hts _ (gG_in mw_123)) (hts _ (gG_in mw_124)) (hts _ (gG_in mw_6)) hK hW hA rfl fs_F (Nat.le_of_ble_eq_true rfl) (Nat.le_of_ble_eq_true rfl) dP_init_54 (fun q4 H hW => ?_)
  have hW : kW (dC, dI) vwC A s.heap [(h0, .inr (0, [.ref q1, .ref q2, .ref q3, .null, .null, .null, .null])), (ad1 0, .inl (kc1 0, (((cl1 p0 4) * ((cl1 p1 10) + 2)) * ((cl1 p1 10) + 2)).toNat, .inl (fun j => iI (z0 j)))), (ad1 1, .inl (kc1 1, (((cl1 p0 4) * (sR (cl1 p0 4) (cl1 p1 10))) * (sR (cl1 p0 4) (cl1 p1 10))).toNat, .inl (fun j => iI (z0 j)))), (ad1 2, .inl (kc1 2, (cl1 p0 4).toNat, .inl (fun j => iI (fS (cl1 p0 4) j)))), (ad1 3, .inl (kc1 3, ((cl1 p1 10) + 2).toNat, .inl (fun j => iI (z0 j)))), (q2, .inr (2, [.ref q1, .int (iI (cl1 p1 10)), .int (iI (sN (cl1 p0 4))), .ref (ad2 0), .int (iI 0), .int (iI 1)])), (q1, .inr (1, [.int (iI (cl1 p0 4)), .int (iI (cl1 p1 10)), .int (iI (sN (cl1 p0 4))), .int (iI (sR (cl1 p0 4) (cl1 p1 10))), .int (iI ((cl1 p1 10) + 2)), .ref (ad1 0), .ref (ad1 1), .ref (ad1 2), .ref (ad1 3)])), (ad2 0, .inl (kc2 0, 4, .inl (fun j => iI (z0 j)))), (q3, .inr (3, [.int (iI 0), .int (iI 0), .int (iI 1), .int (iI 0)])), (q4, .inr (4, [.null, .null, .null, .int (iI 0)]))] H locs := hW
  refine lv_dup hx hb dP_init_57 rfl ?_
  refine kc_I (fun hM hp => va_runIN (As := []) (rest := [.ref q4, .ref h0]) S (hM H.size) ⟨va_cnB 0 hts (gG_good k_F_init) rfl rfl rfl (hN _ (List.mem_of_getElem? (i := 1) rfl)) (hts _ (gG_in mw_6)) (by decide +kernel) ⟨Nat.le_of_ble_eq_true rfl, Nat.le_of_ble_eq_true rfl⟩, rfl, (hts _ (gG_in mw_126))⟩ hp rfl rfl hl.1 rfl (lv_room (Nat.le_of_ble_eq_true rfl)) dP_init_58 ⟨Nat.le_of_ble_eq_true rfl, Nat.le_of_ble_eq_true rfl⟩) (c_F_init l dC dI q4) hK hN hA hW 9 [0, 1, 2, 3, 4, 5, 6, 7, 8] (wr := [(h0, .inr (0, [.ref q1, .ref q2, .ref q3, .null, .null, .null, .null])), (ad1 0, .inl (kc1 0, (((cl1 p0 4) * ((cl1 p1 10) + 2)) * ((cl1 p1 10) + 2)).toNat, .inl (fun j => iI (z0 j)))), (ad1 1, .inl (kc1 1, (((cl1 p0 4) * (sR (cl1 p0 4) (cl1 p1 10))) * (sR (cl1 p0 4) (cl1 p1 10))).toNat, .inl (fun j => iI (z0 j)))), (ad1 2, .inl (kc1 2, (cl1 p0 4).toNat, .inl (fun j => iI (fS (cl1 p0 4) j)))), (ad1 3, .inl (kc1 3, ((cl1 p1 10) + 2).toNat, .inl (fun j => iI (z0 j)))), (q2, .inr (2, [.ref q1, .int (iI (cl1 p1 10)), .int (iI (sN (cl1 p0 4))), .ref (ad2 0), .int (iI 0), .int (iI 1)])), (q1, .inr (1, [.int (iI (cl1 p0 4)), .int (iI (cl1 p1 10)), .int (iI (sN (cl1 p0 4))), .int (iI (sR (cl1 p0 4) (cl1 p1 10))), .int (iI ((cl1 p1 10) + 2)), .ref (ad1 0), .ref (ad1 1), .ref (ad1 2), .ref (ad1 3)])), (ad2 0, .inl (kc2 0, 4, .inl (fun j => iI (z0 j)))), (q3, .inr (3, [.int (iI 0), .int (iI 0), .int (iI 1), .int (iI 0)]))]) rfl rfl (by decide) (by decide) (fun ad4 kc4 H locs hK hW => ?_)
  have hK : va_K (dC, dI) vwC [(kc1 0, .boolean), (kc1 1, .int), (kc1 2, .boolean), (kc1 3, .int), (kc2 0, .int), (kc4 0, .int), (kc4 1, .int), (kc4 2, .int)] s := hK
  have hW : kW (dC, dI) vwC A s.heap [(h0, .inr (0, [.ref q1, .ref q2, .ref q3, .null, .null, .null, .null])), (ad1 0, .inl (kc1 0, (((cl1 p0 4) * ((cl1 p1 10) + 2)) * ((cl1 p1 10) + 2)).toNat, .inl (fun j => iI (z0 j)))), (ad1 1, .inl (kc1 1, (((cl1 p0 4) * (sR (cl1 p0 4) (cl1 p1 10))) * (sR (cl1 p0 4) (cl1 p1 10))).toNat, .inl (fun j => iI (z0 j)))), (ad1 2, .inl (kc1 2, (cl1 p0 4).toNat, .inl (fun j => iI (fS (cl1 p0 4) j)))), (ad1 3, .inl (kc1 3, ((cl1 p1 10) + 2).toNat, .inl (fun j => iI (z0 j)))), (q2, .inr (2, [.ref q1, .int (iI (cl1 p1 10)), .int (iI (sN (cl1 p0 4))), .ref (ad2 0), .int (iI 0), .int (iI 1)])), (q1, .inr (1, [.int (iI (cl1 p0 4)), .int (iI (cl1 p1 10)), .int (iI (sN (cl1 p0 4))), .int (iI (sR (cl1 p0 4) (cl1 p1 10))), .int (iI ((cl1 p1 10) + 2)), .ref (ad1 0), .ref (ad1 1), .ref (ad1 2), .ref (ad1 3)])), (ad2 0, .inl (kc2 0, 4, .inl (fun j => iI (z0 j)))), (q3, .inr (3, [.int (iI 0), .int (iI 0), .int (iI 1), .int (iI 0)])), (q4, .inr (4, [.ref (ad4 0), .ref (ad4 1), .ref (ad4 2), .int (iI 0)])), (ad4 0, .inl (kc4 0, 16, .inl (fun j => iI (z0 j)))), (ad4 1, .inl (kc4 1, 16, .inl (fun j => iI (z0 j)))), (ad4 2, .inl (kc4 2, 16, .inl (fun j => iI (z0 j))))] H locs := hW
  refine k_putF (ty := .object "PeelRibbons$Faults") (ws' := [(h0, .inr (0, [.ref q1, .ref q2, .ref q3, .ref q4, .null, .null, .null])), (ad1 0, .inl (kc1 0, (((cl1 p0 4) * ((cl1 p1 10) + 2)) * ((cl1 p1 10) + 2)).toNat, .inl (fun j => iI (z0 j)))), (ad1 1, .inl (kc1 1, (((cl1 p0 4) * (sR (cl1 p0 4) (cl1 p1 10))) * (sR (cl1 p0 4) (cl1 p1 10))).toNat, .inl (fun j => iI (z0 j)))), (ad1 2, .inl (kc1 2, (cl1 p0 4).toNat, .inl (fun j => iI (fS (cl1 p0 4) j)))), (ad1 3, .inl (kc1 3, ((cl1 p1 10) + 2).toNat, .inl (fun j => iI (z0 j)))), (q2, .inr (2, [.ref q1, .int (iI (cl1 p1 10)), .int (iI (sN (cl1 p0 4))), .ref (ad2 0), .int (iI 0), .int (iI 1)])), (q1, .inr (1, [.int (iI (cl1 p0 4)), .int (iI (cl1 p1 10)), .int (iI (sN (cl1 p0 4))), .int (iI (sR (cl1 p0 4) (cl1 p1 10))), .int (iI ((cl1 p1 10) + 2)), .ref (ad1 0), .ref (ad1 1), .ref (ad1 2), .ref (ad1 3)])), (ad2 0, .inl (kc2 0, 4, .inl (fun j => iI (z0 j)))), (q3, .inr (3, [.int (iI 0), .int (iI 0), .int (iI 1), .int (iI 0)])), (q4, .inr (4, [.ref (ad4 0), .ref (ad4 1), .ref (ad4 2), .int (iI 0)])), (ad4 0, .inl (kc4 0, 16, .inl (fun j => iI (z0 j)))), (ad4 1, .inl (kc4 1, 16, .inl (fun j => iI (z0 j)))), (ad4 2, .inl (kc4 2, 16, .inl (fun j => iI (z0 j))))]) (ci := 0) (C := R_P) (T := T_P) (N := 7) hx hb hts (fun w q => gG_in (inG_P w q)) ty_P tk_P nm_P hown hK hW 0 rfl rfl 3 (by decide) (hts _ (gG_in mw_218)) rfl hin rfl (by decide +kernel) rfl rfl (Nat.le_of_ble_eq_true rfl) rfl dP_init_61 (fun H locs hW => ?_)
  refine lv_aload_n hx hb dP_init_64 rfl (lv_at hl 1 rfl) ?_
  refine k_new (ci := 5) (fs := [.null, .null, .null, .int (iI 0)]) (C := R_L) (T := T_L) (N := 4) hx hb hts (fun w q => gG_in (inG_L w q)) ty_L tk_L hown (hts _ (gG_in mw_142)) (hts _ (gG_in mw_143)) (hts _ (gG_in mw_7)) hK hW hA rfl fs_L (Nat.le_of_ble_eq_true rfl) (Nat.le_of_ble_eq_true rfl) dP_init_65 (fun q5 H hW => ?_)
  have hW : kW (dC, dI) vwC A s.heap [(h0, .inr (0, [.ref q1, .ref q2, .ref q3, .ref q4, .null, .null, .null])), (ad1 0, .inl (kc1 0, (((cl1 p0 4) * ((cl1 p1 10) + 2)) * ((cl1 p1 10) + 2)).toNat, .inl (fun j => iI (z0 j)))), (ad1 1, .inl (kc1 1, (((cl1 p0 4) * (sR (cl1 p0 4) (cl1 p1 10))) * (sR (cl1 p0 4) (cl1 p1 10))).toNat, .inl (fun j => iI (z0 j)))), (ad1 2, .inl (kc1 2, (cl1 p0 4).toNat, .inl (fun j => iI (fS (cl1 p0 4) j)))), (ad1 3, .inl (kc1 3, ((cl1 p1 10) + 2).toNat, .inl (fun j => iI (z0 j)))), (q2, .inr (2, [.ref q1, .int (iI (cl1 p1 10)), .int (iI (sN (cl1 p0 4))), .ref (ad2 0), .int (iI 0), .int (iI 1)])), (q1, .inr (1, [.int (iI (cl1 p0 4)), .int (iI (cl1 p1 10)), .int (iI (sN (cl1 p0 4))), .int (iI (sR (cl1 p0 4) (cl1 p1 10))), .int (iI ((cl1 p1 10) + 2)), .ref (ad1 0), .ref (ad1 1), .ref (ad1 2), .ref (ad1 3)])), (ad2 0, .inl (kc2 0, 4, .inl (fun j => iI (z0 j)))), (q3, .inr (3, [.int (iI 0), .int (iI 0), .int (iI 1), .int (iI 0)])), (q4, .inr (4, [.ref (ad4 0), .ref (ad4 1), .ref (ad4 2), .int (iI 0)])), (ad4 0, .inl (kc4 0, 16, .inl (fun j => iI (z0 j)))), (ad4 1, .inl (kc4 1, 16, .inl (fun j => iI (z0 j)))), (ad4 2, .inl (kc4 2, 16, .inl (fun j => iI (z0 j)))), (q5, .inr (5, [.null, .null, .null, .int (iI 0)]))] H locs := hW
  refine lv_dup hx hb dP_init_68 rfl ?_
  refine kc_I (fun hM hp => va_runIN (As := []) (rest := [.ref q5, .ref h0]) S (hM H.size) ⟨va_cnB 0 hts (gG_good k_L_init) rfl rfl rfl (hN _ (List.mem_of_getElem? (i := 2) rfl)) (hts _ (gG_in mw_7)) (by decide +kernel) ⟨Nat.le_of_ble_eq_true rfl, Nat.le_of_ble_eq_true rfl⟩, rfl, (hts _ (gG_in mw_145))⟩ hp rfl rfl hl.1 rfl (lv_room (Nat.le_of_ble_eq_true rfl)) dP_init_69 ⟨Nat.le_of_ble_eq_true rfl, Nat.le_of_ble_eq_true rfl⟩) (c_L_init l dC dI q5) hK hN hA hW 13 [0, 1, 2, 3, 4, 5, 6, 7, 8, 9, 10, 11, 12] (wr := [(h0, .inr (0, [.ref q1, .ref q2, .ref q3, .ref q4, .null, .null, .null])), (ad1 0, .inl (kc1 0, (((cl1 p0 4) * ((cl1 p1 10) + 2)) * ((cl1 p1 10) + 2)).toNat, .inl (fun j => iI (z0 j)))), (ad1 1, .inl (kc1 1, (((cl1 p0 4) * (sR (cl1 p0 4) (cl1 p1 10))) * (sR (cl1 p0 4) (cl1 p1 10))).toNat, .inl (fun j => iI (z0 j)))), (ad1 2, .inl (kc1 2, (cl1 p0 4).toNat, .inl (fun j => iI (fS (cl1 p0 4) j)))), (ad1 3, .inl (kc1 3, ((cl1 p1 10) + 2).toNat, .inl (fun j => iI (z0 j)))), (q2, .inr (2, [.ref q1, .int (iI (cl1 p1 10)), .int (iI (sN (cl1 p0 4))), .ref (ad2 0), .int (iI 0), .int (iI 1)])), (q1, .inr (1, [.int (iI (cl1 p0 4)), .int (iI (cl1 p1 10)), .int (iI (sN (cl1 p0 4))), .int (iI (sR (cl1 p0 4) (cl1 p1 10))), .int (iI ((cl1 p1 10) + 2)), .ref (ad1 0), .ref (ad1 1), .ref (ad1 2), .ref (ad1 3)])), (ad2 0, .inl (kc2 0, 4, .inl (fun j => iI (z0 j)))), (q3, .inr (3, [.int (iI 0), .int (iI 0), .int (iI 1), .int (iI 0)])), (q4, .inr (4, [.ref (ad4 0), .ref (ad4 1), .ref (ad4 2), .int (iI 0)])), (ad4 0, .inl (kc4 0, 16, .inl (fun j => iI (z0 j)))), (ad4 1, .inl (kc4 1, 16, .inl (fun j => iI (z0 j)))), (ad4 2, .inl (kc4 2, 16, .inl (fun j => iI (z0 j))))]) rfl rfl (by decide) (by decide) (fun ad5 kc5 H locs hK hW => ?_)
  have hK : va_K (dC, dI) vwC [(kc1 0, .boolean), (kc1 1, .int), (kc1 2, .boolean), (kc1 3, .int), (kc2 0, .int), (kc4 0, .int), (kc4 1, .int), (kc4 2, .int), (kc5 0, .int), (kc5 1, .int), (kc5 2, .int)] s := hK
  have hW : kW (dC, dI) vwC A s.heap [(h0, .inr (0, [.ref q1, .ref q2, .ref q3, .ref q4, .null, .null, .null])), (ad1 0, .inl (kc1 0, (((cl1 p0 4) * ((cl1 p1 10) + 2)) * ((cl1 p1 10) + 2)).toNat, .inl (fun j => iI (z0 j)))), (ad1 1, .inl (kc1 1, (((cl1 p0 4) * (sR (cl1 p0 4) (cl1 p1 10))) * (sR (cl1 p0 4) (cl1 p1 10))).toNat, .inl (fun j => iI (z0 j)))), (ad1 2, .inl (kc1 2, (cl1 p0 4).toNat, .inl (fun j => iI (fS (cl1 p0 4) j)))), (ad1 3, .inl (kc1 3, ((cl1 p1 10) + 2).toNat, .inl (fun j => iI (z0 j)))), (q2, .inr (2, [.ref q1, .int (iI (cl1 p1 10)), .int (iI (sN (cl1 p0 4))), .ref (ad2 0), .int (iI 0), .int (iI 1)])), (q1, .inr (1, [.int (iI (cl1 p0 4)), .int (iI (cl1 p1 10)), .int (iI (sN (cl1 p0 4))), .int (iI (sR (cl1 p0 4) (cl1 p1 10))), .int (iI ((cl1 p1 10) + 2)), .ref (ad1 0), .ref (ad1 1), .ref (ad1 2), .ref (ad1 3)])), (ad2 0, .inl (kc2 0, 4, .inl (fun j => iI (z0 j)))), (q3, .inr (3, [.int (iI 0), .int (iI 0), .int (iI 1), .int (iI 0)])), (q4, .inr (4, [.ref (ad4 0), .ref (ad4 1), .ref (ad4 2), .int (iI 0)])), (ad4 0, .inl (kc4 0, 16, .inl (fun j => iI (z0 j)))), (ad4 1, .inl (kc4 1, 16, .inl (fun j => iI (z0 j)))), (ad4 2, .inl (kc4 2, 16, .inl (fun j => iI (z0 j)))), (q5, .inr (5, [.ref (ad5 0), .ref (ad5 1), .ref (ad5 2), .int (iI 0)])), (ad5 0, .inl (kc5 0, 6, .inl (fun j => iI (z0 j)))), (ad5 1, .inl (kc5 1, 6, .inl (fun j => iI (z0 j)))), (ad5 2, .inl (kc5 2, 6, .inl (fun j => iI (z0 j))))] H locs := hW
  refine k_putF (ty := .object "PeelRibbons$Leaves") (ws' := [(h0, .inr (0, [.ref q1, .ref q2, .ref q3, .ref q4, .ref q5, .null, .null])), (ad1 0, .inl (kc1 0, (((cl1 p0 4) * ((cl1 p1 10) + 2)) * ((cl1 p1 10) + 2)).toNat, .inl (fun j => iI (z0 j)))), (ad1 1, .inl (kc1 1, (((cl1 p0 4) * (sR (cl1 p0 4) (cl1 p1 10))) * (sR (cl1 p0 4) (cl1 p1 10))).toNat, .inl (fun j => iI (z0 j)))), (ad1 2, .inl (kc1 2, (cl1 p0 4).toNat, .inl (fun j => iI (fS (cl1 p0 4) j)))), (ad1 3, .inl (kc1 3, ((cl1 p1 10) + 2).toNat, .inl (fun j => iI (z0 j)))), (q2, .inr (2, [.ref q1, .int (iI (cl1 p1 10)), .int (iI (sN (cl1 p0 4))), .ref (ad2 0), .int (iI 0), .int (iI 1)])), (q1, .inr (1, [.int (iI (cl1 p0 4)), .int (iI (cl1 p1 10)), .int (iI (sN (cl1 p0 4))), .int (iI (sR (cl1 p0 4) (cl1 p1 10))), .int (iI ((cl1 p1 10) + 2)), .ref (ad1 0), .ref (ad1 1), .ref (ad1 2), .ref (ad1 3)])), (ad2 0, .inl (kc2 0, 4, .inl (fun j => iI (z0 j)))), (q3, .inr (3, [.int (iI 0), .int (iI 0), .int (iI 1), .int (iI 0)])), (q4, .inr (4, [.ref (ad4 0), .ref (ad4 1), .ref (ad4 2), .int (iI 0)])), (ad4 0, .inl (kc4 0, 16, .inl (fun j => iI (z0 j)))), (ad4 1, .inl (kc4 1, 16, .inl (fun j => iI (z0 j)))), (ad4 2, .inl (kc4 2, 16, .inl (fun j => iI (z0 j)))), (q5, .inr (5, [.ref (ad5 0), .ref (ad5 1), .ref (ad5 2), .int (iI 0)])), (ad5 0, .inl (kc5 0, 6, .inl (fun j => iI (z0 j)))), (ad5 1, .inl (kc5 1, 6, .inl (fun j => iI (z0 j)))), (ad5 2, .inl (kc5 2, 6, .inl (fun j => iI (z0 j))))]) (ci := 0) (C := R_P) (T := T_P) (N := 7) hx hb hts (fun w q => gG_in (inG_P w q)) ty_P tk_P nm_P hown hK hW 0 rfl rfl 4 (by decide) (hts _ (gG_in mw_219)) rfl hin rfl (by decide +kernel) rfl rfl (Nat.le_of_ble_eq_true rfl) rfl dP_init_72 (fun H locs hW => ?_)
  refine lv_aload_n hx hb dP_init_75 rfl (lv_at hl 1 rfl) ?_
  refine k_new (ci := 6) (fs := [.null, .null, .null, .null, .null, .int (iI 0), .int (iI 0), .int (iI 0), .int (iI 0), .int (iI 0)]) (C := R_C) (T := T_C) (N := 10) hx hb hts (fun w q => gG_in (inG_C w q)) ty_C tk_C hown (hts _ (gG_in mw_161)) (hts _ (gG_in mw_162)) (hts _ (gG_in mw_8)) hK hW hA rfl fs_C (Nat.le_of_ble_eq_true rfl) (Nat.le_of_ble_eq_true rfl) dP_init_76 (fun q6 H hW => ?_)
  have hW : kW (dC, dI) vwC A s.heap [(h0, .inr (0, [.ref q1, .ref q2, .ref q3, .ref q4, .ref q5, .null, .null])), (ad1 0, .inl (kc1 0, (((cl1 p0 4) * ((cl1 p1 10) + 2)) * ((cl1 p1 10) + 2)).toNat, .inl (fun j => iI (z0 j)))), (ad1 1, .inl (kc1 1, (((cl1 p0 4) * (sR (cl1 p0 4) (cl1 p1 10))) * (sR (cl1 p0 4) (cl1 p1 10))).toNat, .inl (fun j => iI (z0 j)))), (ad1 2, .inl (kc1 2, (cl1 p0 4).toNat, .inl (fun j => iI (fS (cl1 p0 4) j)))), (ad1 3, .inl (kc1 3, ((cl1 p1 10) + 2).toNat, .inl (fun j => iI (z0 j)))), (q2, .inr (2, [.ref q1, .int (iI (cl1 p1 10)), .int (iI (sN (cl1 p0 4))), .ref (ad2 0), .int (iI 0), .int (iI 1)])), (q1, .inr (1, [.int (iI (cl1 p0 4)), .int (iI (cl1 p1 10)), .int (iI (sN (cl1 p0 4))), .int (iI (sR (cl1 p0 4) (cl1 p1 10))), .int (iI ((cl1 p1 10) + 2)), .ref (ad1 0), .ref (ad1 1), .ref (ad1 2), .ref (ad1 3)])), (ad2 0, .inl (kc2 0, 4, .inl (fun j => iI (z0 j)))), (q3, .inr (3, [.int (iI 0), .int (iI 0), .int (iI 1), .int (iI 0)])), (q4, .inr (4, [.ref (ad4 0), .ref (ad4 1), .ref (ad4 2), .int (iI 0)])), (ad4 0, .inl (kc4 0, 16, .inl (fun j => iI (z0 j)))), (ad4 1, .inl (kc4 1, 16, .inl (fun j => iI (z0 j)))), (ad4 2, .inl (kc4 2, 16, .inl (fun j => iI (z0 j)))), (q5, .inr (5, [.ref (ad5 0), .ref (ad5 1), .ref (ad5 2), .int (iI 0)])), (ad5 0, .inl (kc5 0, 6, .inl (fun j => iI (z0 j)))), (ad5 1, .inl (kc5 1, 6, .inl (fun j => iI (z0 j)))), (ad5 2, .inl (kc5 2, 6, .inl (fun j => iI (z0 j)))), (q6, .inr (6, [.null, .null, .null, .null, .null, .int (iI 0), .int (iI 0), .int (iI 0), .int (iI 0), .int (iI 0)]))] H locs := hW
  refine lv_dup hx hb dP_init_79 rfl ?_
  refine kc_I (fun hM hp => va_runIN (As := []) (rest := [.ref q6, .ref h0]) S (hM H.size) ⟨va_cnB 0 hts (gG_good k_C_init) rfl rfl rfl (hN _ (List.mem_of_getElem? (i := 3) rfl)) (hts _ (gG_in mw_8)) (by decide +kernel) ⟨Nat.le_of_ble_eq_true rfl, Nat.le_of_ble_eq_true rfl⟩, rfl, (hts _ (gG_in mw_164))⟩ hp rfl rfl hl.1 rfl (lv_room (Nat.le_of_ble_eq_true rfl)) dP_init_80 ⟨Nat.le_of_ble_eq_true rfl, Nat.le_of_ble_eq_true rfl⟩) (c_C_init l dC dI q6) hK hN hA hW 17 [0, 1, 2, 3, 4, 5, 6, 7, 8, 9, 10, 11, 12, 13, 14, 15, 16] (wr := [(h0, .inr (0, [.ref q1, .ref q2, .ref q3, .ref q4, .ref q5, .null, .null])), (ad1 0, .inl (kc1 0, (((cl1 p0 4) * ((cl1 p1 10) + 2)) * ((cl1 p1 10) + 2)).toNat, .inl (fun j => iI (z0 j)))), (ad1 1, .inl (kc1 1, (((cl1 p0 4) * (sR (cl1 p0 4) (cl1 p1 10))) * (sR (cl1 p0 4) (cl1 p1 10))).toNat, .inl (fun j => iI (z0 j)))), (ad1 2, .inl (kc1 2, (cl1 p0 4).toNat, .inl (fun j => iI (fS (cl1 p0 4) j)))), (ad1 3, .inl (kc1 3, ((cl1 p1 10) + 2).toNat, .inl (fun j => iI (z0 j)))), (q2, .inr (2, [.ref q1, .int (iI (cl1 p1 10)), .int (iI (sN (cl1 p0 4))), .ref (ad2 0), .int (iI 0), .int (iI 1)])), (q1, .inr (1, [.int (iI (cl1 p0 4)), .int (iI (cl1 p1 10)), .int (iI (sN (cl1 p0 4))), .int (iI (sR (cl1 p0 4) (cl1 p1 10))), .int (iI ((cl1 p1 10) + 2)), .ref (ad1 0), .ref (ad1 1), .ref (ad1 2), .ref (ad1 3)])), (ad2 0, .inl (kc2 0, 4, .inl (fun j => iI (z0 j)))), (q3, .inr (3, [.int (iI 0), .int (iI 0), .int (iI 1), .int (iI 0)])), (q4, .inr (4, [.ref (ad4 0), .ref (ad4 1), .ref (ad4 2), .int (iI 0)])), (ad4 0, .inl (kc4 0, 16, .inl (fun j => iI (z0 j)))), (ad4 1, .inl (kc4 1, 16, .inl (fun j => iI (z0 j)))), (ad4 2, .inl (kc4 2, 16, .inl (fun j => iI (z0 j)))), (q5, .inr (5, [.ref (ad5 0), .ref (ad5 1), .ref (ad5 2), .int (iI 0)])), (ad5 0, .inl (kc5 0, 6, .inl (fun j => iI (z0 j)))), (ad5 1, .inl (kc5 1, 6, .inl (fun j => iI (z0 j)))), (ad5 2, .inl (kc5 2, 6, .inl (fun j => iI (z0 j))))]) rfl rfl (by decide) (by decide) (fun ad6 kc6 H locs hK hW => ?_)
  have hK : va_K (dC, dI) vwC [(kc1 0, .boolean), (kc1 1, .int), (kc1 2, .boolean), (kc1 3, .int), (kc2 0, .int), (kc4 0, .int), (kc4 1, .int), (kc4 2, .int), (kc5 0, .int), (kc5 1, .int), (kc5 2, .int), (kc6 0, .int), (kc6 1, .long), (kc6 2, .int), (kc6 3, .int), (kc6 4, .int)] s := hK
  have hW : kW (dC, dI) vwC A s.heap [(h0, .inr (0, [.ref q1, .ref q2, .ref q3, .ref q4, .ref q5, .null, .null])), (ad1 0, .inl (kc1 0, (((cl1 p0 4) * ((cl1 p1 10) + 2)) * ((cl1 p1 10) + 2)).toNat, .inl (fun j => iI (z0 j)))), (ad1 1, .inl (kc1 1, (((cl1 p0 4) * (sR (cl1 p0 4) (cl1 p1 10))) * (sR (cl1 p0 4) (cl1 p1 10))).toNat, .inl (fun j => iI (z0 j)))), (ad1 2, .inl (kc1 2, (cl1 p0 4).toNat, .inl (fun j => iI (fS (cl1 p0 4) j)))), (ad1 3, .inl (kc1 3, ((cl1 p1 10) + 2).toNat, .inl (fun j => iI (z0 j)))), (q2, .inr (2, [.ref q1, .int (iI (cl1 p1 10)), .int (iI (sN (cl1 p0 4))), .ref (ad2 0), .int (iI 0), .int (iI 1)])), (q1, .inr (1, [.int (iI (cl1 p0 4)), .int (iI (cl1 p1 10)), .int (iI (sN (cl1 p0 4))), .int (iI (sR (cl1 p0 4) (cl1 p1 10))), .int (iI ((cl1 p1 10) + 2)), .ref (ad1 0), .ref (ad1 1), .ref (ad1 2), .ref (ad1 3)])), (ad2 0, .inl (kc2 0, 4, .inl (fun j => iI (z0 j)))), (q3, .inr (3, [.int (iI 0), .int (iI 0), .int (iI 1), .int (iI 0)])), (q4, .inr (4, [.ref (ad4 0), .ref (ad4 1), .ref (ad4 2), .int (iI 0)])), (ad4 0, .inl (kc4 0, 16, .inl (fun j => iI (z0 j)))), (ad4 1, .inl (kc4 1, 16, .inl (fun j => iI (z0 j)))), (ad4 2, .inl (kc4 2, 16, .inl (fun j => iI (z0 j)))), (q5, .inr (5, [.ref (ad5 0), .ref (ad5 1), .ref (ad5 2), .int (iI 0)])), (ad5 0, .inl (kc5 0, 6, .inl (fun j => iI (z0 j)))), (ad5 1, .inl (kc5 1, 6, .inl (fun j => iI (z0 j)))), (ad5 2, .inl (kc5 2, 6, .inl (fun j => iI (z0 j)))), (q6, .inr (6, [.ref (ad6 0), .ref (ad6 1), .ref (ad6 2), .ref (ad6 3), .ref (ad6 4), .int (iI 0), .int (iI 0), .int (iI 0), .int (iI 0), .int (iI 0)])), (ad6 0, .inl (kc6 0, 2000, .inl (fun j => iI (z0 j)))), (ad6 1, .inl (kc6 1, 2001, .inr (.inl (fun j => lI (z0 j))))), (ad6 2, .inl (kc6 2, 2000, .inl (fun j => iI (z0 j)))), (ad6 3, .inl (kc6 3, 2000, .inl (fun j => iI (z0 j)))), (ad6 4, .inl (kc6 4, 6, .inl (fun j => iI (z0 j))))] H locs := hW
  refine k_putF (ty := .object "PeelRibbons$Clipping") (ws' := [(h0, .inr (0, [.ref q1, .ref q2, .ref q3, .ref q4, .ref q5, .ref q6, .null])), (ad1 0, .inl (kc1 0, (((cl1 p0 4) * ((cl1 p1 10) + 2)) * ((cl1 p1 10) + 2)).toNat, .inl (fun j => iI (z0 j)))), (ad1 1, .inl (kc1 1, (((cl1 p0 4) * (sR (cl1 p0 4) (cl1 p1 10))) * (sR (cl1 p0 4) (cl1 p1 10))).toNat, .inl (fun j => iI (z0 j)))), (ad1 2, .inl (kc1 2, (cl1 p0 4).toNat, .inl (fun j => iI (fS (cl1 p0 4) j)))), (ad1 3, .inl (kc1 3, ((cl1 p1 10) + 2).toNat, .inl (fun j => iI (z0 j)))), (q2, .inr (2, [.ref q1, .int (iI (cl1 p1 10)), .int (iI (sN (cl1 p0 4))), .ref (ad2 0), .int (iI 0), .int (iI 1)])), (q1, .inr (1, [.int (iI (cl1 p0 4)), .int (iI (cl1 p1 10)), .int (iI (sN (cl1 p0 4))), .int (iI (sR (cl1 p0 4) (cl1 p1 10))), .int (iI ((cl1 p1 10) + 2)), .ref (ad1 0), .ref (ad1 1), .ref (ad1 2), .ref (ad1 3)])), (ad2 0, .inl (kc2 0, 4, .inl (fun j => iI (z0 j)))), (q3, .inr (3, [.int (iI 0), .int (iI 0), .int (iI 1), .int (iI 0)])), (q4, .inr (4, [.ref (ad4 0), .ref (ad4 1), .ref (ad4 2), .int (iI 0)])), (ad4 0, .inl (kc4 0, 16, .inl (fun j => iI (z0 j)))), (ad4 1, .inl (kc4 1, 16, .inl (fun j => iI (z0 j)))), (ad4 2, .inl (kc4 2, 16, .inl (fun j => iI (z0 j)))), (q5, .inr (5, [.ref (ad5 0), .ref (ad5 1), .ref (ad5 2), .int (iI 0)])), (ad5 0, .inl (kc5 0, 6, .inl (fun j => iI (z0 j)))), (ad5 1, .inl (kc5 1, 6, .inl (fun j => iI (z0 j)))), (ad5 2, .inl (kc5 2, 6, .inl (fun j => iI (z0 j)))), (q6, .inr (6, [.ref (ad6 0), .ref (ad6 1), .ref (ad6 2), .ref (ad6 3), .ref (ad6 4), .int (iI 0), .int (iI 0), .int (iI 0), .int (iI 0), .int (iI 0)])), (ad6 0, .inl (kc6 0, 2000, .inl (fun j => iI (z0 j)))), (ad6 1, .inl (kc6 1, 2001, .inr (.inl (fun j => lI (z0 j))))), (ad6 2, .inl (kc6 2, 2000, .inl (fun j => iI (z0 j)))), (ad6 3, .inl (kc6 3, 2000, .inl (fun j => iI (z0 j)))), (ad6 4, .inl (kc6 4, 6, .inl (fun j => iI (z0 j))))]) (ci := 0) (C := R_P) (T := T_P) (N := 7) hx hb hts (fun w q => gG_in (inG_P w q)) ty_P tk_P nm_P hown hK hW 0 rfl rfl 5 (by decide) (hts _ (gG_in mw_220)) rfl hin rfl (by decide +kernel) rfl rfl (Nat.le_of_ble_eq_true rfl) rfl dP_init_83 (fun H locs hW => ?_)
  refine lv_aload_n hx hb dP_init_86 rfl (lv_at hl 1 rfl) ?_
  refine k_new (ci := 7) (fs := [.null, .null, .int (iI 0)]) (C := R_K) (T := T_K) (N := 3) hx hb hts (fun w q => gG_in (inG_K w q)) ty_K tk_K hown (hts _ (gG_in mw_199)) (hts _ (gG_in mw_200)) (hts _ (gG_in mw_9)) hK hW hA rfl fs_K (Nat.le_of_ble_eq_true rfl) (Nat.le_of_ble_eq_true rfl) dP_init_87 (fun q7 H hW => ?_)
  have hW : kW (dC, dI) vwC A s.heap [(h0, .inr (0, [.ref q1, .ref q2, .ref q3, .ref q4, .ref q5, .ref q6, .null])), (ad1 0, .inl (kc1 0, (((cl1 p0 4) * ((cl1 p1 10) + 2)) * ((cl1 p1 10) + 2)).toNat, .inl (fun j => iI (z0 j)))), (ad1 1, .inl (kc1 1, (((cl1 p0 4) * (sR (cl1 p0 4) (cl1 p1 10))) * (sR (cl1 p0 4) (cl1 p1 10))).toNat, .inl (fun j => iI (z0 j)))), (ad1 2, .inl (kc1 2, (cl1 p0 4).toNat, .inl (fun j => iI (fS (cl1 p0 4) j)))), (ad1 3, .inl (kc1 3, ((cl1 p1 10) + 2).toNat, .inl (fun j => iI (z0 j)))), (q2, .inr (2, [.ref q1, .int (iI (cl1 p1 10)), .int (iI (sN (cl1 p0 4))), .ref (ad2 0), .int (iI 0), .int (iI 1)])), (q1, .inr (1, [.int (iI (cl1 p0 4)), .int (iI (cl1 p1 10)), .int (iI (sN (cl1 p0 4))), .int (iI (sR (cl1 p0 4) (cl1 p1 10))), .int (iI ((cl1 p1 10) + 2)), .ref (ad1 0), .ref (ad1 1), .ref (ad1 2), .ref (ad1 3)])), (ad2 0, .inl (kc2 0, 4, .inl (fun j => iI (z0 j)))), (q3, .inr (3, [.int (iI 0), .int (iI 0), .int (iI 1), .int (iI 0)])), (q4, .inr (4, [.ref (ad4 0), .ref (ad4 1), .ref (ad4 2), .int (iI 0)])), (ad4 0, .inl (kc4 0, 16, .inl (fun j => iI (z0 j)))), (ad4 1, .inl (kc4 1, 16, .inl (fun j => iI (z0 j)))), (ad4 2, .inl (kc4 2, 16, .inl (fun j => iI (z0 j)))), (q5, .inr (5, [.ref (ad5 0), .ref (ad5 1), .ref (ad5 2), .int (iI 0)])), (ad5 0, .inl (kc5 0, 6, .inl (fun j => iI (z0 j)))), (ad5 1, .inl (kc5 1, 6, .inl (fun j => iI (z0 j)))), (ad5 2, .inl (kc5 2, 6, .inl (fun j => iI (z0 j)))), (q6, .inr (6, [.ref (ad6 0), .ref (ad6 1), .ref (ad6 2), .ref (ad6 3), .ref (ad6 4), .int (iI 0), .int (iI 0), .int (iI 0), .int (iI 0), .int (iI 0)])), (ad6 0, .inl (kc6 0, 2000, .inl (fun j => iI (z0 j)))), (ad6 1, .inl (kc6 1, 2001, .inr (.inl (fun j => lI (z0 j))))), (ad6 2, .inl (kc6 2, 2000, .inl (fun j => iI (z0 j)))), (ad6 3, .inl (kc6 3, 2000, .inl (fun j => iI (z0 j)))), (ad6 4, .inl (kc6 4, 6, .inl (fun j => iI (z0 j)))), (q7, .inr (7, [.null, .null, .int (iI 0)]))] H locs := hW
  refine lv_dup hx hb dP_init_90 rfl ?_
  refine kc_I (fun hM hp => va_runIN (As := []) (rest := [.ref q7, .ref h0]) S (hM H.size) ⟨va_cnB 0 hts (gG_good k_K_init) rfl rfl rfl (hN _ (List.mem_of_getElem? (i := 4) rfl)) (hts _ (gG_in mw_9)) (by decide +kernel) ⟨Nat.le_of_ble_eq_true rfl, Nat.le_of_ble_eq_true rfl⟩, rfl, (hts _ (gG_in mw_202))⟩ hp rfl rfl hl.1 rfl (lv_room (Nat.le_of_ble_eq_true rfl)) dP_init_91 ⟨Nat.le_of_ble_eq_true rfl, Nat.le_of_ble_eq_true rfl⟩) (c_K_init l dC dI q7) hK hN hA hW 23 [0, 1, 2, 3, 4, 5, 6, 7, 8, 9, 10, 11, 12, 13, 14, 15, 16, 17, 18, 19, 20, 21, 22] (wr := [(h0, .inr (0, [.ref q1, .ref q2, .ref q3, .ref q4, .ref q5, .ref q6, .null])), (ad1 0, .inl (kc1 0, (((cl1 p0 4) * ((cl1 p1 10) + 2)) * ((cl1 p1 10) + 2)).toNat, .inl (fun j => iI (z0 j)))), (ad1 1, .inl (kc1 1, (((cl1 p0 4) * (sR (cl1 p0 4) (cl1 p1 10))) * (sR (cl1 p0 4) (cl1 p1 10))).toNat, .inl (fun j => iI (z0 j)))), (ad1 2, .inl (kc1 2, (cl1 p0 4).toNat, .inl (fun j => iI (fS (cl1 p0 4) j)))), (ad1 3, .inl (kc1 3, ((cl1 p1 10) + 2).toNat, .inl (fun j => iI (z0 j)))), (q2, .inr (2, [.ref q1, .int (iI (cl1 p1 10)), .int (iI (sN (cl1 p0 4))), .ref (ad2 0), .int (iI 0), .int (iI 1)])), (q1, .inr (1, [.int (iI (cl1 p0 4)), .int (iI (cl1 p1 10)), .int (iI (sN (cl1 p0 4))), .int (iI (sR (cl1 p0 4) (cl1 p1 10))), .int (iI ((cl1 p1 10) + 2)), .ref (ad1 0), .ref (ad1 1), .ref (ad1 2), .ref (ad1 3)])), (ad2 0, .inl (kc2 0, 4, .inl (fun j => iI (z0 j)))), (q3, .inr (3, [.int (iI 0), .int (iI 0), .int (iI 1), .int (iI 0)])), (q4, .inr (4, [.ref (ad4 0), .ref (ad4 1), .ref (ad4 2), .int (iI 0)])), (ad4 0, .inl (kc4 0, 16, .inl (fun j => iI (z0 j)))), (ad4 1, .inl (kc4 1, 16, .inl (fun j => iI (z0 j)))), (ad4 2, .inl (kc4 2, 16, .inl (fun j => iI (z0 j)))), (q5, .inr (5, [.ref (ad5 0), .ref (ad5 1), .ref (ad5 2), .int (iI 0)])), (ad5 0, .inl (kc5 0, 6, .inl (fun j => iI (z0 j)))), (ad5 1, .inl (kc5 1, 6, .inl (fun j => iI (z0 j)))), (ad5 2, .inl (kc5 2, 6, .inl (fun j => iI (z0 j)))), (q6, .inr (6, [.ref (ad6 0), .ref (ad6 1), .ref (ad6 2), .ref (ad6 3), .ref (ad6 4), .int (iI 0), .int (iI 0), .int (iI 0), .int (iI 0), .int (iI 0)])), (ad6 0, .inl (kc6 0, 2000, .inl (fun j => iI (z0 j)))), (ad6 1, .inl (kc6 1, 2001, .inr (.inl (fun j => lI (z0 j))))), (ad6 2, .inl (kc6 2, 2000, .inl (fun j => iI (z0 j)))), (ad6 3, .inl (kc6 3, 2000, .inl (fun j => iI (z0 j)))), (ad6 4, .inl (kc6 4, 6, .inl (fun j => iI (z0 j))))]) rfl rfl (by decide) (by decide) (fun ad7 kc7 H locs hK hW => ?_)
  have hK : va_K (dC, dI) vwC [(kc1 0, .boolean), (kc1 1, .int), (kc1 2, .boolean), (kc1 3, .int), (kc2 0, .int), (kc4 0, .int), (kc4 1, .int), (kc4 2, .int), (kc5 0, .int), (kc5 1, .int), (kc5 2, .int), (kc6 0, .int), (kc6 1, .long), (kc6 2, .int), (kc6 3, .int), (kc6 4, .int), (kc7 0, .int), (kc7 1, .int)] s := hK
  have hW : kW (dC, dI) vwC A s.heap [(h0, .inr (0, [.ref q1, .ref q2, .ref q3, .ref q4, .ref q5, .ref q6, .null])), (ad1 0, .inl (kc1 0, (((cl1 p0 4) * ((cl1 p1 10) + 2)) * ((cl1 p1 10) + 2)).toNat, .inl (fun j => iI (z0 j)))), (ad1 1, .inl (kc1 1, (((cl1 p0 4) * (sR (cl1 p0 4) (cl1 p1 10))) * (sR (cl1 p0 4) (cl1 p1 10))).toNat, .inl (fun j => iI (z0 j)))), (ad1 2, .inl (kc1 2, (cl1 p0 4).toNat, .inl (fun j => iI (fS (cl1 p0 4) j)))), (ad1 3, .inl (kc1 3, ((cl1 p1 10) + 2).toNat, .inl (fun j => iI (z0 j)))), (q2, .inr (2, [.ref q1, .int (iI (cl1 p1 10)), .int (iI (sN (cl1 p0 4))), .ref (ad2 0), .int (iI 0), .int (iI 1)])), (q1, .inr (1, [.int (iI (cl1 p0 4)), .int (iI (cl1 p1 10)), .int (iI (sN (cl1 p0 4))), .int (iI (sR (cl1 p0 4) (cl1 p1 10))), .int (iI ((cl1 p1 10) + 2)), .ref (ad1 0), .ref (ad1 1), .ref (ad1 2), .ref (ad1 3)])), (ad2 0, .inl (kc2 0, 4, .inl (fun j => iI (z0 j)))), (q3, .inr (3, [.int (iI 0), .int (iI 0), .int (iI 1), .int (iI 0)])), (q4, .inr (4, [.ref (ad4 0), .ref (ad4 1), .ref (ad4 2), .int (iI 0)])), (ad4 0, .inl (kc4 0, 16, .inl (fun j => iI (z0 j)))), (ad4 1, .inl (kc4 1, 16, .inl (fun j => iI (z0 j)))), (ad4 2, .inl (kc4 2, 16, .inl (fun j => iI (z0 j)))), (q5, .inr (5, [.ref (ad5 0), .ref (ad5 1), .ref (ad5 2), .int (iI 0)])), (ad5 0, .inl (kc5 0, 6, .inl (fun j => iI (z0 j)))), (ad5 1, .inl (kc5 1, 6, .inl (fun j => iI (z0 j)))), (ad5 2, .inl (kc5 2, 6, .inl (fun j => iI (z0 j)))), (q6, .inr (6, [.ref (ad6 0), .ref (ad6 1), .ref (ad6 2), .ref (ad6 3), .ref (ad6 4), .int (iI 0), .int (iI 0), .int (iI 0), .int (iI 0), .int (iI 0)])), (ad6 0, .inl (kc6 0, 2000, .inl (fun j => iI (z0 j)))), (ad6 1, .inl (kc6 1, 2001, .inr (.inl (fun j => lI (z0 j))))), (ad6 2, .inl (kc6 2, 2000, .inl (fun j => iI (z0 j)))), (ad6 3, .inl (kc6 3, 2000, .inl (fun j => iI (z0 j)))), (ad6 4, .inl (kc6 4, 6, .inl (fun j => iI (z0 j)))), (q7, .inr (7, [.ref (ad7 0), .ref (ad7 1), .int (iI 0)])), (ad7 0, .inl (kc7 0, 8, .inl (fun j => iI (z0 j)))), (ad7 1, .inl (kc7 1, 8, .inl (fun j => iI (z0 j))))] H locs := hW
  refine k_putF (ty := .object "PeelRibbons$KnifeRows") (ws' := [(h0, .inr (0, [.ref q1, .ref q2, .ref q3, .ref q4, .ref q5, .ref q6, .ref q7])), (ad1 0, .inl (kc1 0, (((cl1 p0 4) * ((cl1 p1 10) + 2)) * ((cl1 p1 10) + 2)).toNat, .inl (fun j => iI (z0 j)))), (ad1 1, .inl (kc1 1, (((cl1 p0 4) * (sR (cl1 p0 4) (cl1 p1 10))) * (sR (cl1 p0 4) (cl1 p1 10))).toNat, .inl (fun j => iI (z0 j)))), (ad1 2, .inl (kc1 2, (cl1 p0 4).toNat, .inl (fun j => iI (fS (cl1 p0 4) j)))), (ad1 3, .inl (kc1 3, ((cl1 p1 10) + 2).toNat, .inl (fun j => iI (z0 j)))), (q2, .inr (2, [.ref q1, .int (iI (cl1 p1 10)), .int (iI (sN (cl1 p0 4))), .ref (ad2 0), .int (iI 0), .int (iI 1)])), (q1, .inr (1, [.int (iI (cl1 p0 4)), .int (iI (cl1 p1 10)), .int (iI (sN (cl1 p0 4))), .int (iI (sR (cl1 p0 4) (cl1 p1 10))), .int (iI ((cl1 p1 10) + 2)), .ref (ad1 0), .ref (ad1 1), .ref (ad1 2), .ref (ad1 3)])), (ad2 0, .inl (kc2 0, 4, .inl (fun j => iI (z0 j)))), (q3, .inr (3, [.int (iI 0), .int (iI 0), .int (iI 1), .int (iI 0)])), (q4, .inr (4, [.ref (ad4 0), .ref (ad4 1), .ref (ad4 2), .int (iI 0)])), (ad4 0, .inl (kc4 0, 16, .inl (fun j => iI (z0 j)))), (ad4 1, .inl (kc4 1, 16, .inl (fun j => iI (z0 j)))), (ad4 2, .inl (kc4 2, 16, .inl (fun j => iI (z0 j)))), (q5, .inr (5, [.ref (ad5 0), .ref (ad5 1), .ref (ad5 2), .int (iI 0)])), (ad5 0, .inl (kc5 0, 6, .inl (fun j => iI (z0 j)))), (ad5 1, .inl (kc5 1, 6, .inl (fun j => iI (z0 j)))), (ad5 2, .inl (kc5 2, 6, .inl (fun j => iI (z0 j)))), (q6, .inr (6, [.ref (ad6 0), .ref (ad6 1), .ref (ad6 2), .ref (ad6 3), .ref (ad6 4), .int (iI 0), .int (iI 0), .int (iI 0), .int (iI 0), .int (iI 0)])), (ad6 0, .inl (kc6 0, 2000, .inl (fun j => iI (z0 j)))), (ad6 1, .inl (kc6 1, 2001, .inr (.inl (fun j => lI (z0 j))))), (ad6 2, .inl (kc6 2, 2000, .inl (fun j => iI (z0 j)))), (ad6 3, .inl (kc6 3, 2000, .inl (fun j => iI (z0 j)))), (ad6 4, .inl (kc6 4, 6, .inl (fun j => iI (z0 j)))), (q7, .inr (7, [.ref (ad7 0), .ref (ad7 1), .int (iI 0)])), (ad7 0, .inl (kc7 0, 8, .inl (fun j => iI (z0 j)))), (ad7 1, .inl (kc7 1, 8, .inl (fun j => iI (z0 j))))]) (ci := 0) (C := R_P) (T := T_P) (N := 7) hx hb hts (fun w q => gG_in (inG_P w q)) ty_P tk_P nm_P hown hK hW 0 rfl rfl 6 (by decide) (hts _ (gG_in mw_221)) rfl hin rfl (by decide +kernel) rfl rfl (Nat.le_of_ble_eq_true rfl) rfl dP_init_94 (fun H locs hW => ?_)
  have hK : va_K (dC, dI) vwC (t_P_init (fun k => [0, 0, 0, 0, 0, 0, 0, 0, (kc1 0), (kc1 1), (kc1 2), (kc1 3), (kc2 0), (kc4 0), (kc4 1), (kc4 2), (kc5 0), (kc5 1), (kc5 2), (kc6 0), (kc6 1), (kc6 2), (kc6 3), (kc6 4), (kc7 0), (kc7 1)].getD k 0)) s := hK.sub [0, 1, 2, 3, 4, 5, 6, 7, 8, 9, 10, 11, 12, 13, 14, 15, 16, 17] rfl
  refine W.widen (k := 25) (n := 12569) (Nat.le_of_ble_eq_true rfl) (Nat.le_of_ble_eq_true rfl) ?_
  exact k_cret (g := g_P_init h0 p0 p1) (ty := t_P_init) hx hb hr hlocks (fun k => [h0, q1, q2, q3, q4, q5, q6, q7, (ad1 0), (ad1 1), (ad1 2), (ad1 3), (ad2 0), (ad4 0), (ad4 1), (ad4 2), (ad5 0), (ad5 1), (ad5 2), (ad6 0), (ad6 1), (ad6 2), (ad6 3), (ad6 4), (ad7 0), (ad7 1)].getD k 0) (fun k => [0, 0, 0, 0, 0, 0, 0, 0, (kc1 0), (kc1 1), (kc1 2), (kc1 3), (kc2 0), (kc4 0), (kc4 1), (kc4 2), (kc5 0), (kc5 1), (kc5 2), (kc6 0), (kc6 1), (kc6 2), (kc6 3), (kc6 4), (kc7 0), (kc7 1)].getD k 0) (hW.perm [0, 6, 5, 8, 9, 13, 17, 23, 1, 2, 3, 4, 7, 10, 11, 12, 14, 15, 16, 18, 19, 20, 21, 22, 24, 25] (by decide) rfl rfl) hK dP_init_97
