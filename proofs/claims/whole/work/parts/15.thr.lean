set_option maxRecDepth 20000 in
theorem mw_14 : Jvm.Cond.initialized "java/lang/IndexOutOfBoundsException" ∈ gG := gG_of (List.mem_of_getElem? (i := 38) rfl) rfl
set_option maxRecDepth 20000 in
theorem mw_15 : Jvm.Cond.initialized "java/lang/IllegalArgumentException" ∈ gG := gG_of (List.mem_of_getElem? (i := 39) rfl) rfl
set_option maxRecDepth 20000 in
theorem mw_16 : Jvm.Cond.initialized "java/lang/IllegalStateException" ∈ gG := gG_of (List.mem_of_getElem? (i := 40) rfl) rfl
set_option maxRecDepth 20000 in
theorem mw_334 : Jvm.Cond.classLink "PeelRibbons" (70 : Nat) "java/lang/IndexOutOfBoundsException" ∈ gG := gG_of (List.mem_of_getElem? (i := 358) rfl) rfl
set_option maxRecDepth 20000 in
theorem mw_335 : Jvm.Cond.instantiable "java/lang/IndexOutOfBoundsException" (6 : Nat) ∈ gG := gG_of (List.mem_of_getElem? (i := 359) rfl) rfl
set_option maxRecDepth 20000 in
theorem mw_455 : Jvm.Cond.classLink "PeelRibbons" (112 : Nat) "java/lang/IllegalArgumentException" ∈ gG := gG_of (List.mem_of_getElem? (i := 479) rfl) rfl
set_option maxRecDepth 20000 in
theorem mw_456 : Jvm.Cond.instantiable "java/lang/IllegalArgumentException" (6 : Nat) ∈ gG := gG_of (List.mem_of_getElem? (i := 480) rfl) rfl
set_option maxRecDepth 20000 in
theorem mw_492 : Jvm.Cond.classLink "PeelRibbons" (128 : Nat) "java/lang/IllegalStateException" ∈ gG := gG_of (List.mem_of_getElem? (i := 516) rfl) rfl
set_option maxRecDepth 20000 in
theorem mw_493 : Jvm.Cond.instantiable "java/lang/IllegalStateException" (6 : Nat) ∈ gG := gG_of (List.mem_of_getElem? (i := 517) rfl) rfl
def wt_P_cell (nn : Nat → Nat) (σ : kM) (p0 : Int) (p1 : Int) (p2 : Int) (p3 : Int) (Px : Nat → Prop) : Prop := ∃ P1 : Int → Prop, wp_S_hasCell nn σ p0 p1 p2 P1 ∧ ∀ r1 : Int, P1 r1 → iR r1 ∧ ((¬ r1 = 0 → False) ∧ (r1 = 0 → Px 0))
def wt_P_axis (nn : Nat → Nat) (σ : kM) (p0 : Int) (Px : Nat → Prop) : Prop := ∃ P1 : Int → Prop, wp_P_isWithin nn σ p0 0 3 P1 ∧ ∀ r1 : Int, P1 r1 → iR r1 ∧ ((¬ r1 = 0 → False) ∧ (r1 = 0 → Px 0))
def wt_P_roomOf (nn : Nat → Nat) (σ : kM) (p0 : Int) (p1 : Int) (p2 : Int) (p3 : Int) (Px : Nat → Prop) : Prop := ∃ P1 : Int → Prop, wp_S_hasCorner nn σ p0 p1 P1 ∧ ∀ r1 : Int, P1 r1 → iR r1 ∧ ((r1 = 0 → Px 0) ∧ (¬ r1 = 0 → ∃ P2 : Int → Prop, wp_S_hasCorner nn σ p2 p3 P2 ∧ ∀ r2 : Int, P2 r2 → iR r2 ∧ ((¬ r2 = 0 → False) ∧ (r2 = 0 → Px 0))))
def wt_P_peel (nn : Nat → Nat) (σ : kM) (p0 : Int) (p1 : Int) (Px : Nat → Prop) : Prop := ∃ P1 : Int → Prop, wp_P_isWithin nn σ p0 1 1000 P1 ∧ ∀ r1 : Int, P1 r1 → iR r1 ∧ ((r1 = 0 → Px 1) ∧ (¬ r1 = 0 → ∃ P2 : Int → Prop, wp_P_isWithin nn σ p1 0 1000 P2 ∧ ∀ r2 : Int, P2 r2 → iR r2 ∧ ((¬ r2 = 0 → False) ∧ (r2 = 0 → Px 1))))
def wt_P_before (nn : Nat → Nat) (σ : kM) (p0 : Int) (Px : Nat → Prop) : Prop := ∃ P1 : Int → Prop, wp_R_isPeeled nn σ P1 ∧ ∀ r1 : Int, P1 r1 → iR r1 ∧ ((¬ r1 = 0 → ∃ P2 : Int → Prop, wp_P_isWithin nn σ p0 0 (σ 3 3) P2 ∧ ∀ r3 : Int, P2 r3 → iR r3 ∧ ((¬ r3 = 0 → ∃ P3 : Int → Prop, wp_R_lengthBefore nn σ p0 P3 ∧ ∀ r4 : Int, P3 r4 → False) ∧ (r3 = 0 → Px 0))) ∧ (r1 = 0 → Px 2))
def wt_P_fault (nn : Nat → Nat) (σ : kM) (p0 : Int) (p1 : Int) (p2 : Int) (Px : Nat → Prop) : Prop := ∃ P1 : Int → Prop, wp_P_isWithin nn σ p0 0 359 P1 ∧ ∀ r1 : Int, P1 r1 → iR r1 ∧ ((r1 = 0 → Px 1) ∧ (¬ r1 = 0 → ∃ P2 : Int → Prop, wp_P_isWithin nn σ p1 0 1000 P2 ∧ ∀ r2 : Int, P2 r2 → iR r2 ∧ ((r2 = 0 → Px 1) ∧ (¬ r2 = 0 → ∃ P3 : Int → Prop, wp_P_isKind nn σ p2 P3 ∧ ∀ r3 : Int, P3 r3 → iR r3 ∧ ((¬ r3 = 0 → ∃ P4 : Int → Prop, wp_F_isFull nn σ P4 ∧ ∀ r4 : Int, P4 r4 → iR r4 ∧ ((r4 = 0 → False) ∧ (¬ r4 = 0 → Px 2))) ∧ (r3 = 0 → Px 1))))))
def wt_P_unrolled (nn : Nat → Nat) (σ : kM) (p0 : Int) (Px : Nat → Prop) : Prop := ∃ P1 : Int → Prop, wp_F_has nn σ p0 P1 ∧ ∀ r1 : Int, P1 r1 → iR r1 ∧ ((¬ r1 = 0 → ∃ P2 : Int → Prop, wp_R_isPeeled nn σ P2 ∧ ∀ r2 : Int, P2 r2 → iR r2 ∧ ((¬ r2 = 0 → ∃ P3 : Int → Prop, wp_F_placeIn nn σ p0 P3 ∧ ∀ r3 : Int, P3 r3 → False) ∧ (r2 = 0 → Px 2))) ∧ (r1 = 0 → Px 0))
def wt_P_leaf (nn : Nat → Nat) (σ : kM) (p0 : Int) (p1 : Int) (Px : Nat → Prop) : Prop := ∃ P1 : Int → Prop, wp_P_isWithin nn σ p0 1 500 P1 ∧ ∀ r1 : Int, P1 r1 → iR r1 ∧ ((r1 = 0 → Px 1) ∧ (¬ r1 = 0 → ∃ P2 : Int → Prop, wp_P_isWithin nn σ p1 0 1000000 P2 ∧ ∀ r2 : Int, P2 r2 → iR r2 ∧ ((¬ r2 = 0 → ∃ P3 : Int → Prop, wp_L_isFull nn σ P3 ∧ ∀ r3 : Int, P3 r3 → iR r3 ∧ ((r3 = 0 → False) ∧ (¬ r3 = 0 → Px 2))) ∧ (r2 = 0 → Px 1))))
def wt_P_bars (nn : Nat → Nat) (σ : kM) (p0 : Int) (p1 : Int) (p2 : Int) (Px : Nat → Prop) : Prop := ∃ P1 : Int → Prop, wp_L_has nn σ p0 P1 ∧ ∀ r1 : Int, P1 r1 → iR r1 ∧ ((r1 = 0 → Px 0) ∧ (¬ r1 = 0 → ∃ P2 : Int → Prop, wp_P_isKind nn σ p1 P2 ∧ ∀ r2 : Int, P2 r2 → iR r2 ∧ ((¬ r2 = 0 → False) ∧ (r2 = 0 → Px 0))))
def wt_P_clip (nn : Nat → Nat) (σ : kM) (p0 : Int) (Px : Nat → Prop) : Prop := ∃ P1 : Int → Prop, wp_P_isWithin nn σ p0 1 1000 P1 ∧ ∀ r1 : Int, P1 r1 → iR r1 ∧ ((¬ r1 = 0 → ∃ P2 : Int → Prop, wp_R_isPeeled nn σ P2 ∧ ∀ r2 : Int, P2 r2 → iR r2 ∧ ((¬ r2 = 0 → False) ∧ (r2 = 0 → Px 2))) ∧ (r1 = 0 → Px 1))
def wt_P_at (nn : Nat → Nat) (σ : kM) (p0 : Int) (p1 : Int) (Px : Nat → Prop) : Prop := ∃ P1 : Int → Prop, wp_C_isDone nn σ P1 ∧ ∀ r1 : Int, P1 r1 → iR r1 ∧ ((¬ r1 = 0 → ∃ P2 : Int → Prop, wp_P_isWithin nn σ p0 0 ((σ 6 7) - 1) P2 ∧ ∀ r3 : Int, P2 r3 → iR r3 ∧ ((r3 = 0 → Px 0) ∧ (¬ r3 = 0 → ∃ P3 : Int → Prop, wp_P_isWithin nn σ p1 0 1 P3 ∧ ∀ r4 : Int, P3 r4 → iR r4 ∧ ((¬ r4 = 0 → iR p1 ∧ ((¬ p1 = 0 → ∃ P4 : Int → Prop, wp_C_firstStepOf nn σ p0 P4 ∧ ∀ r5 : Int, P4 r5 → False) ∧ (p1 = 0 → ∃ P5 : Int → Prop, wp_C_leafOf nn σ p0 P5 ∧ ∀ r6 : Int, P5 r6 → False))) ∧ (r4 = 0 → Px 0))))) ∧ (r1 = 0 → Px 2))
def wt_P_clipped (nn : Nat → Nat) (σ : kM) (p0 : Int) (Px : Nat → Prop) : Prop := ∃ P1 : Int → Prop, wp_C_isDone nn σ P1 ∧ ∀ r1 : Int, P1 r1 → iR r1 ∧ ((¬ r1 = 0 → ∃ P2 : Int → Prop, wp_P_isWithin nn σ p0 0 2 P2 ∧ ∀ r2 : Int, P2 r2 → iR r2 ∧ ((¬ r2 = 0 → iR p0 ∧ ((¬ p0 = 0 → iR p0 ∧ ((¬ p0 = 1 → False) ∧ (p0 = 1 → False))) ∧ (p0 = 0 → False))) ∧ (r2 = 0 → Px 0))) ∧ (r1 = 0 → Px 2))
def wt_P_shrink (nn : Nat → Nat) (σ : kM) (p0 : Int) (p1 : Int) (p2 : Int) (Px : Nat → Prop) : Prop := ∃ P1 : Int → Prop, wp_L_has nn σ p0 P1 ∧ ∀ r1 : Int, P1 r1 → iR r1 ∧ ((¬ r1 = 0 → ∃ P2 : Int → Prop, wp_P_isWithin nn σ p2 1 1000 P2 ∧ ∀ r2 : Int, P2 r2 → iR r2 ∧ ((r2 = 0 → Px 1) ∧ (¬ r2 = 0 → ∃ P3 : Int → Prop, wp_P_isWithin nn σ p1 0 p2 P3 ∧ ∀ r3 : Int, P3 r3 → iR r3 ∧ ((¬ r3 = 0 → ∃ P4 : Int → Prop, wp_L_width nn σ p0 P4 ∧ ∀ r4 : Int, P4 r4 → (iR (r4 * p1) ∧ iR p2 ∧ 0 ≤ (r4 * p1) ∧ 0 < p2) ∧ False) ∧ (r3 = 0 → Px 1))))) ∧ (r1 = 0 → Px 0))
def wt_P_row (nn : Nat → Nat) (σ : kM) (p0 : Int) (p1 : Int) (Px : Nat → Prop) : Prop := ∃ P1 : Int → Prop, wp_P_isWithin nn σ p0 0 1000 P1 ∧ ∀ r1 : Int, P1 r1 → iR r1 ∧ ((r1 = 0 → Px 1) ∧ (¬ r1 = 0 → ∃ P2 : Int → Prop, wp_K_isBelowLast nn σ p0 P2 ∧ ∀ r2 : Int, P2 r2 → iR r2 ∧ ((r2 = 0 → Px 1) ∧ (¬ r2 = 0 → ∃ P3 : Int → Prop, wp_P_isWithin nn σ p1 (-100) 100 P3 ∧ ∀ r3 : Int, P3 r3 → iR r3 ∧ ((¬ r3 = 0 → False) ∧ (r3 = 0 → Px 1))))))
def wt_P_knife (nn : Nat → Nat) (σ : kM) (p0 : Int) (Px : Nat → Prop) : Prop := ∃ P1 : Int → Prop, wp_P_isWithin nn σ p0 0 1000 P1 ∧ ∀ r1 : Int, P1 r1 → iR r1 ∧ ((¬ r1 = 0 → ∃ P2 : Int → Prop, wp_K_answerAt nn σ p0 P2 ∧ ∀ r2 : Int, P2 r2 → False) ∧ (r1 = 0 → Px 1))
abbrev rt_P_cell : Room := { frames := 6, cells := 1, slots := 6, locals := 82 }
set_option maxHeartbeats 4000000 in
set_option maxRecDepth 100000 in
theorem t_P_cell (l : Launch) (htr : l.stackTraces = false) (dC : Nat → ClassId) (dI : Nat → Nat → Nat) (ad : Nat → Nat) (kc : Nat → ClassId) (nn : Nat → Nat) (σ : kM) (p0 : Int) (p1 : Int) (p2 : Int) (p3 : Int) {Px : Nat → Prop} (h : wt_P_cell nn σ p0 p1 p2 p3 Px) : MetT l y_P_cell ws_P_cell rt_P_cell (kPt (dC, dI) vwC (tyC kc) (wC ad kc nn σ) nsG [.ref (ad 0), .int (iI p0), .int (iI p1), .int (iI p2), .int (iI p3)]) (kQt Px exC) 1 6 := by
  refine k_enterT (cc := b_P_cell) (maxL := 6) (ret := (some .boolean)) (by decide) rfl (Nat.le_of_ble_eq_true rfl) ?_
  intro p e s m below meth c ls S hlocks hno hP hK hN hst hl
  generalize ([.ref (ad 0), .int (iI p0), .int (iI p1), .int (iI p2), .int (iI p3)] : List Value).toArray = args at S ⊢
  obtain ⟨hx, hb, hml, hown, hts⟩ := id S
  have hl : lv_has ls 6 [(0, .ref (ad 0)), (1, .int (iI p0)), (2, .int (iI p1)), (3, .int (iI p2)), (4, .int (iI p3))] := hl
  unfold wt_P_cell at h
  refine lv_aload_n hx hb dP_cell_0 rfl (lv_at hl 0 rfl) ?_
  refine k_get (ci := 0) (C := R_P) (T := T_P) (N := 7) hx hb hts (fun w q => gG_in (inG_P w q)) hown hK hP 0 rfl rfl 0 (by decide) (hts _ (gG_in mw_215)) rfl dP_cell_1 ?_
  refine lv_iload_n hx hb dP_cell_4 rfl (lv_at hl 1 rfl) ?_
  refine lv_iload_n hx hb dP_cell_5 rfl (lv_at hl 2 rfl) ?_
  refine lv_iload_n hx hb dP_cell_6 rfl (lv_at hl 3 rfl) ?_
  obtain ⟨P1, g1, h⟩ := h
  refine kc_vp (As := [.int (iI p0), .int (iI p1), .int (iI p2)]) (rest := []) (ci := 1) (q0 := 1) S (c_S_hasCell l dC dI ad kc nn σ p0 p1 p2 g1) (cwV 3 hts (gV mw_327 mw_328 mw_329 mw_2 k_S_hasCell) rfl rfl rfl (by decide +kernel) ⟨Nat.le_of_ble_eq_true rfl, Nat.le_of_ble_eq_true rfl⟩) hK hN hP rfl rfl rfl hl.1 rfl (Nat.le_of_ble_eq_true rfl) dP_cell_7 ⟨Nat.zero_le _, Nat.zero_le _⟩ (fun r1 hp => ?_)
  have h := h r1 hp
  obtain ⟨q1, h⟩ := h
  obtain ⟨ht, hf⟩ := h
  refine ki_if_ne (tgt := 23) hx hb dP_cell_10 (by decide) q1 (fun c1 => ?_) (fun c1 => ?_)
  · have h := ht c1
    refine lv_aload_n hx hb dP_cell_23 rfl (lv_at hl 0 rfl) ?_
    refine k_get (ci := 0) (C := R_P) (T := T_P) (N := 7) hx hb hts (fun w q => gG_in (inG_P w q)) hown hK hP 0 rfl rfl 0 (by decide) (hts _ (gG_in mw_215)) rfl dP_cell_24 ?_
    refine lv_iload_n hx hb dP_cell_27 rfl (lv_at hl 1 rfl) ?_
    refine lv_iload_n hx hb dP_cell_28 rfl (lv_at hl 2 rfl) ?_
    refine lv_iload_n hx hb dP_cell_29 rfl (lv_at hl 3 rfl) ?_
    refine lv_iload hx hb dP_cell_30 (lv_at hl 4 rfl) ?_
    exact False.elim h
  · have h := hf c1
    exact k_thr (own := R_P) (cls := exC 0) (text := "no such slice or cell") (names := exN) 0 rfl hx hb hlocks hno htr (hl.1.trans hml.symm) hown (hts _ (gG_in mw_334)) (hts _ (gG_in mw_14)) (hst.2.2.2.2.2.2.use (k := 72) (tx := "no such slice or cell") (List.mem_of_getElem? (i := 0) rfl)) (by decide +kernel) (by decide +kernel) (own_0 hts hst) (hts _ (gG_in mw_335)) dP_cell_13 dP_cell_16 dP_cell_17 dP_cell_19 dP_cell_22 ⟨Nat.le_of_ble_eq_true rfl, Nat.le_of_ble_eq_true rfl, Nat.le_of_ble_eq_true rfl, Nat.le_of_ble_eq_true rfl⟩ h
abbrev rt_P_axis : Room := { frames := 6, cells := 1, slots := 6, locals := 82 }
set_option maxHeartbeats 4000000 in
set_option maxRecDepth 100000 in
theorem t_P_axis (l : Launch) (htr : l.stackTraces = false) (dC : Nat → ClassId) (dI : Nat → Nat → Nat) (ad : Nat → Nat) (kc : Nat → ClassId) (nn : Nat → Nat) (σ : kM) (p0 : Int) {Px : Nat → Prop} (h : wt_P_axis nn σ p0 Px) : MetT l y_P_axis ws_P_axis rt_P_axis (kPt (dC, dI) vwC (tyC kc) (wC ad kc nn σ) nsG [.ref (ad 0), .int (iI p0)]) (kQt Px exC) 1 6 := by
  refine k_enterT (cc := b_P_axis) (maxL := 2) (ret := (some .int)) (by decide) rfl (Nat.le_of_ble_eq_true rfl) ?_
  intro p e s m below meth c ls S hlocks hno hP hK hN hst hl
  generalize ([.ref (ad 0), .int (iI p0)] : List Value).toArray = args at S ⊢
  obtain ⟨hx, hb, hml, hown, hts⟩ := id S
  have hl : lv_has ls 2 [(0, .ref (ad 0)), (1, .int (iI p0))] := hl
  unfold wt_P_axis at h
  refine lv_iload_n hx hb dP_axis_0 rfl (lv_at hl 1 rfl) ?_
  refine lv_iconst (v := iI 0) hx hb dP_axis_1 rfl ?_
  refine lv_iconst (v := iI 3) hx hb dP_axis_2 rfl ?_
  obtain ⟨P1, g1, h⟩ := h
  refine kc_sp (As := [.int (iI p0), .int (iI 0), .int (iI 3)]) (rest := []) S (c_P_isWithin l dC dI (tyC kc) (wC ad kc nn) nn σ p0 0 3 g1) (cwS 3 hts (gS mw_425 mw_332 mw_1 k_P_isWithin) rfl rfl rfl (by decide +kernel) ⟨Nat.le_of_ble_eq_true rfl, Nat.le_of_ble_eq_true rfl⟩) hK hN hP rfl hl.1 rfl (Nat.le_of_ble_eq_true rfl) dP_axis_3 ⟨Nat.zero_le _, Nat.zero_le _⟩ (fun r1 hp => ?_)
  have h := h r1 hp
  obtain ⟨q1, h⟩ := h
  obtain ⟨ht, hf⟩ := h
  refine ki_if_ne (tgt := 19) hx hb dP_axis_6 (by decide) q1 (fun c1 => ?_) (fun c1 => ?_)
  · have h := ht c1
    refine lv_aload_n hx hb dP_axis_19 rfl (lv_at hl 0 rfl) ?_
    refine k_get (ci := 0) (C := R_P) (T := T_P) (N := 7) hx hb hts (fun w q => gG_in (inG_P w q)) hown hK hP 0 rfl rfl 1 (by decide) (hts _ (gG_in mw_216)) rfl dP_axis_20 ?_
    refine lv_iload_n hx hb dP_axis_23 rfl (lv_at hl 1 rfl) ?_
    exact False.elim h
  · have h := hf c1
    exact k_thr (own := R_P) (cls := exC 0) (text := "an axis has four numbers") (names := exN) 0 rfl hx hb hlocks hno htr (hl.1.trans hml.symm) hown (hts _ (gG_in mw_334)) (hts _ (gG_in mw_14)) (hst.2.2.2.2.2.2.use (k := 93) (tx := "an axis has four numbers") (List.mem_of_getElem? (i := 1) rfl)) (by decide +kernel) (by decide +kernel) (own_0 hts hst) (hts _ (gG_in mw_335)) dP_axis_9 dP_axis_12 dP_axis_13 dP_axis_15 dP_axis_18 ⟨Nat.le_of_ble_eq_true rfl, Nat.le_of_ble_eq_true rfl, Nat.le_of_ble_eq_true rfl, Nat.le_of_ble_eq_true rfl⟩ h
abbrev rt_P_roomOf : Room := { frames := 6, cells := 1, slots := 6, locals := 82 }
set_option maxHeartbeats 4000000 in
set_option maxRecDepth 100000 in
theorem t_P_roomOf (l : Launch) (htr : l.stackTraces = false) (dC : Nat → ClassId) (dI : Nat → Nat → Nat) (ad : Nat → Nat) (kc : Nat → ClassId) (nn : Nat → Nat) (σ : kM) (p0 : Int) (p1 : Int) (p2 : Int) (p3 : Int) {Px : Nat → Prop} (h : wt_P_roomOf nn σ p0 p1 p2 p3 Px) : MetT l y_P_roomOf ws_P_roomOf rt_P_roomOf (kPt (dC, dI) vwC (tyC kc) (wC ad kc nn σ) nsG [.ref (ad 0), .int (iI p0), .int (iI p1), .int (iI p2), .int (iI p3)]) (kQt Px exC) 1 6 := by
  refine k_enterT (cc := b_P_roomOf) (maxL := 5) (ret := (some .int)) (by decide) rfl (Nat.le_of_ble_eq_true rfl) ?_
  intro p e s m below meth c ls S hlocks hno hP hK hN hst hl
  generalize ([.ref (ad 0), .int (iI p0), .int (iI p1), .int (iI p2), .int (iI p3)] : List Value).toArray = args at S ⊢
  obtain ⟨hx, hb, hml, hown, hts⟩ := id S
  have hl : lv_has ls 5 [(0, .ref (ad 0)), (1, .int (iI p0)), (2, .int (iI p1)), (3, .int (iI p2)), (4, .int (iI p3))] := hl
  unfold wt_P_roomOf at h
  refine lv_aload_n hx hb dP_roomOf_0 rfl (lv_at hl 0 rfl) ?_
  refine k_get (ci := 0) (C := R_P) (T := T_P) (N := 7) hx hb hts (fun w q => gG_in (inG_P w q)) hown hK hP 0 rfl rfl 0 (by decide) (hts _ (gG_in mw_215)) rfl dP_roomOf_1 ?_
  refine lv_iload_n hx hb dP_roomOf_4 rfl (lv_at hl 1 rfl) ?_
  refine lv_iload_n hx hb dP_roomOf_5 rfl (lv_at hl 2 rfl) ?_
  obtain ⟨P1, g1, h⟩ := h
  refine kc_vp (As := [.int (iI p0), .int (iI p1)]) (rest := []) (ci := 1) (q0 := 1) S (c_S_hasCorner l dC dI ad kc nn σ p0 p1 g1) (cwV 2 hts (gV mw_438 mw_439 mw_440 mw_2 k_S_hasCorner) rfl rfl rfl (by decide +kernel) ⟨Nat.le_of_ble_eq_true rfl, Nat.le_of_ble_eq_true rfl⟩) hK hN hP rfl rfl rfl hl.1 rfl (Nat.le_of_ble_eq_true rfl) dP_roomOf_6 ⟨Nat.zero_le _, Nat.zero_le _⟩ (fun r1 hp => ?_)
  have h := h r1 hp
  obtain ⟨q1, h⟩ := h
  obtain ⟨ht, hf⟩ := h
  refine ki_if_eq (tgt := 25) hx hb dP_roomOf_9 (by decide) q1 (fun c1 => ?_) (fun c1 => ?_)
  · have h := ht c1
    exact k_thr (own := R_P) (cls := exC 0) (text := "no such corner") (names := exN) 0 rfl hx hb hlocks hno htr (hl.1.trans hml.symm) hown (hts _ (gG_in mw_334)) (hts _ (gG_in mw_14)) (hst.2.2.2.2.2.2.use (k := 106) (tx := "no such corner") (List.mem_of_getElem? (i := 2) rfl)) (by decide +kernel) (by decide +kernel) (own_0 hts hst) (hts _ (gG_in mw_335)) dP_roomOf_25 dP_roomOf_28 dP_roomOf_29 dP_roomOf_31 dP_roomOf_34 ⟨Nat.le_of_ble_eq_true rfl, Nat.le_of_ble_eq_true rfl, Nat.le_of_ble_eq_true rfl, Nat.le_of_ble_eq_true rfl⟩ h
  · have h := hf c1
    refine lv_aload_n hx hb dP_roomOf_12 rfl (lv_at hl 0 rfl) ?_
    refine k_get (ci := 0) (C := R_P) (T := T_P) (N := 7) hx hb hts (fun w q => gG_in (inG_P w q)) hown hK hP 0 rfl rfl 0 (by decide) (hts _ (gG_in mw_215)) rfl dP_roomOf_13 ?_
    refine lv_iload_n hx hb dP_roomOf_16 rfl (lv_at hl 3 rfl) ?_
    refine lv_iload hx hb dP_roomOf_17 (lv_at hl 4 rfl) ?_
    obtain ⟨P2, g2, h⟩ := h
    refine kc_vp (As := [.int (iI p2), .int (iI p3)]) (rest := []) (ci := 1) (q0 := 1) S (c_S_hasCorner l dC dI ad kc nn σ p2 p3 g2) (cwV 2 hts (gV mw_438 mw_439 mw_440 mw_2 k_S_hasCorner) rfl rfl rfl (by decide +kernel) ⟨Nat.le_of_ble_eq_true rfl, Nat.le_of_ble_eq_true rfl⟩) hK hN hP rfl rfl rfl hl.1 rfl (Nat.le_of_ble_eq_true rfl) dP_roomOf_19 ⟨Nat.zero_le _, Nat.zero_le _⟩ (fun r2 hp => ?_)
    have h := h r2 hp
    obtain ⟨q2, h⟩ := h
    obtain ⟨ht, hf⟩ := h
    refine ki_if_ne (tgt := 35) hx hb dP_roomOf_22 (by decide) q2 (fun c2 => ?_) (fun c2 => ?_)
    · have h := ht c2
      refine lv_aload_n hx hb dP_roomOf_35 rfl (lv_at hl 0 rfl) ?_
      refine k_get (ci := 0) (C := R_P) (T := T_P) (N := 7) hx hb hts (fun w q => gG_in (inG_P w q)) hown hK hP 0 rfl rfl 1 (by decide) (hts _ (gG_in mw_216)) rfl dP_roomOf_36 ?_
      refine lv_iload_n hx hb dP_roomOf_39 rfl (lv_at hl 1 rfl) ?_
      refine lv_iload_n hx hb dP_roomOf_40 rfl (lv_at hl 2 rfl) ?_
      refine lv_iload_n hx hb dP_roomOf_41 rfl (lv_at hl 3 rfl) ?_
      refine lv_iload hx hb dP_roomOf_42 (lv_at hl 4 rfl) ?_
      exact False.elim h
    · have h := hf c2
      exact k_thr (own := R_P) (cls := exC 0) (text := "no such corner") (names := exN) 0 rfl hx hb hlocks hno htr (hl.1.trans hml.symm) hown (hts _ (gG_in mw_334)) (hts _ (gG_in mw_14)) (hst.2.2.2.2.2.2.use (k := 106) (tx := "no such corner") (List.mem_of_getElem? (i := 2) rfl)) (by decide +kernel) (by decide +kernel) (own_0 hts hst) (hts _ (gG_in mw_335)) dP_roomOf_25 dP_roomOf_28 dP_roomOf_29 dP_roomOf_31 dP_roomOf_34 ⟨Nat.le_of_ble_eq_true rfl, Nat.le_of_ble_eq_true rfl, Nat.le_of_ble_eq_true rfl, Nat.le_of_ble_eq_true rfl⟩ h
abbrev rt_P_peel : Room := { frames := 6, cells := 1, slots := 6, locals := 82 }
set_option maxHeartbeats 4000000 in
set_option maxRecDepth 100000 in
theorem t_P_peel (l : Launch) (htr : l.stackTraces = false) (dC : Nat → ClassId) (dI : Nat → Nat → Nat) (ad : Nat → Nat) (kc : Nat → ClassId) (nn : Nat → Nat) (σ : kM) (p0 : Int) (p1 : Int) {Px : Nat → Prop} (h : wt_P_peel nn σ p0 p1 Px) : MetT l y_P_peel ws_P_peel rt_P_peel (kPt (dC, dI) vwC (tyC kc) (wC ad kc nn σ) nsG [.ref (ad 0), .int (iI p0), .int (iI p1)]) (kQt Px exC) 1 6 := by
  refine k_enterT (cc := b_P_peel) (maxL := 3) (ret := (some .int)) (by decide) rfl (Nat.le_of_ble_eq_true rfl) ?_
  intro p e s m below meth c ls S hlocks hno hP hK hN hst hl
  generalize ([.ref (ad 0), .int (iI p0), .int (iI p1)] : List Value).toArray = args at S ⊢
  obtain ⟨hx, hb, hml, hown, hts⟩ := id S
  have hl : lv_has ls 3 [(0, .ref (ad 0)), (1, .int (iI p0)), (2, .int (iI p1))] := hl
  unfold wt_P_peel at h
  refine lv_iload_n hx hb dP_peel_0 rfl (lv_at hl 1 rfl) ?_
  refine lv_iconst (v := iI 1) hx hb dP_peel_1 rfl ?_
  refine lv_sipush (v := iI 1000) hx hb dP_peel_2 (by decide) ?_
  obtain ⟨P1, g1, h⟩ := h
  refine kc_sp (As := [.int (iI p0), .int (iI 1), .int (iI 1000)]) (rest := []) S (c_P_isWithin l dC dI (tyC kc) (wC ad kc nn) nn σ p0 1 1000 g1) (cwS 3 hts (gS mw_425 mw_332 mw_1 k_P_isWithin) rfl rfl rfl (by decide +kernel) ⟨Nat.le_of_ble_eq_true rfl, Nat.le_of_ble_eq_true rfl⟩) hK hN hP rfl hl.1 rfl (Nat.le_of_ble_eq_true rfl) dP_peel_5 ⟨Nat.zero_le _, Nat.zero_le _⟩ (fun r1 hp => ?_)
  have h := h r1 hp
  obtain ⟨q1, h⟩ := h
  obtain ⟨ht, hf⟩ := h
  refine ki_if_eq (tgt := 22) hx hb dP_peel_8 (by decide) q1 (fun c1 => ?_) (fun c1 => ?_)
  · have h := ht c1
    exact k_thr (own := R_P) (cls := exC 1) (text := "thick is 1 .. 1000, core 0 .. 1000") (names := exN) 1 rfl hx hb hlocks hno htr (hl.1.trans hml.symm) hown (hts _ (gG_in mw_455)) (hts _ (gG_in mw_15)) (hst.2.2.2.2.2.2.use (k := 114) (tx := "thick is 1 .. 1000, core 0 .. 1000") (List.mem_of_getElem? (i := 3) rfl)) (by decide +kernel) (by decide +kernel) (own_1 hts hst) (hts _ (gG_in mw_456)) dP_peel_22 dP_peel_25 dP_peel_26 dP_peel_28 dP_peel_31 ⟨Nat.le_of_ble_eq_true rfl, Nat.le_of_ble_eq_true rfl, Nat.le_of_ble_eq_true rfl, Nat.le_of_ble_eq_true rfl⟩ h
  · have h := hf c1
    refine lv_iload_n hx hb dP_peel_11 rfl (lv_at hl 2 rfl) ?_
    refine lv_iconst (v := iI 0) hx hb dP_peel_12 rfl ?_
    refine lv_sipush (v := iI 1000) hx hb dP_peel_13 (by decide) ?_
    obtain ⟨P2, g2, h⟩ := h
    refine kc_sp (As := [.int (iI p1), .int (iI 0), .int (iI 1000)]) (rest := []) S (c_P_isWithin l dC dI (tyC kc) (wC ad kc nn) nn σ p1 0 1000 g2) (cwS 3 hts (gS mw_425 mw_332 mw_1 k_P_isWithin) rfl rfl rfl (by decide +kernel) ⟨Nat.le_of_ble_eq_true rfl, Nat.le_of_ble_eq_true rfl⟩) hK hN hP rfl hl.1 rfl (Nat.le_of_ble_eq_true rfl) dP_peel_16 ⟨Nat.zero_le _, Nat.zero_le _⟩ (fun r2 hp => ?_)
    have h := h r2 hp
    obtain ⟨q2, h⟩ := h
    obtain ⟨ht, hf⟩ := h
    refine ki_if_ne (tgt := 32) hx hb dP_peel_19 (by decide) q2 (fun c2 => ?_) (fun c2 => ?_)
    · have h := ht c2
      refine lv_aload_n hx hb dP_peel_32 rfl (lv_at hl 0 rfl) ?_
      refine k_get (ci := 0) (C := R_P) (T := T_P) (N := 7) hx hb hts (fun w q => gG_in (inG_P w q)) hown hK hP 0 rfl rfl 2 (by decide) (hts _ (gG_in mw_217)) rfl dP_peel_33 ?_
      refine lv_aload_n hx hb dP_peel_36 rfl (lv_at hl 0 rfl) ?_
      refine k_get (ci := 0) (C := R_P) (T := T_P) (N := 7) hx hb hts (fun w q => gG_in (inG_P w q)) hown hK hP 0 rfl rfl 1 (by decide) (hts _ (gG_in mw_216)) rfl dP_peel_37 ?_
      exact False.elim h
    · have h := hf c2
      exact k_thr (own := R_P) (cls := exC 1) (text := "thick is 1 .. 1000, core 0 .. 1000") (names := exN) 1 rfl hx hb hlocks hno htr (hl.1.trans hml.symm) hown (hts _ (gG_in mw_455)) (hts _ (gG_in mw_15)) (hst.2.2.2.2.2.2.use (k := 114) (tx := "thick is 1 .. 1000, core 0 .. 1000") (List.mem_of_getElem? (i := 3) rfl)) (by decide +kernel) (by decide +kernel) (own_1 hts hst) (hts _ (gG_in mw_456)) dP_peel_22 dP_peel_25 dP_peel_26 dP_peel_28 dP_peel_31 ⟨Nat.le_of_ble_eq_true rfl, Nat.le_of_ble_eq_true rfl, Nat.le_of_ble_eq_true rfl, Nat.le_of_ble_eq_true rfl⟩ h
abbrev rt_P_before : Room := { frames := 6, cells := 1, slots := 6, locals := 82 }
set_option maxHeartbeats 4000000 in
set_option maxRecDepth 100000 in
theorem t_P_before (l : Launch) (htr : l.stackTraces = false) (dC : Nat → ClassId) (dI : Nat → Nat → Nat) (ad : Nat → Nat) (kc : Nat → ClassId) (nn : Nat → Nat) (σ : kM) (p0 : Int) {Px : Nat → Prop} (h : wt_P_before nn σ p0 Px) : MetT l y_P_before ws_P_before rt_P_before (kPt (dC, dI) vwC (tyC kc) (wC ad kc nn σ) nsG [.ref (ad 0), .int (iI p0)]) (kQt Px exC) 1 6 := by
  refine k_enterT (cc := b_P_before) (maxL := 2) (ret := (some .int)) (by decide) rfl (Nat.le_of_ble_eq_true rfl) ?_
  intro p e s m below meth c ls S hlocks hno hP hK hN hst hl
  generalize ([.ref (ad 0), .int (iI p0)] : List Value).toArray = args at S ⊢
  obtain ⟨hx, hb, hml, hown, hts⟩ := id S
  have hl : lv_has ls 2 [(0, .ref (ad 0)), (1, .int (iI p0))] := hl
  unfold wt_P_before at h
  refine lv_aload_n hx hb dP_before_0 rfl (lv_at hl 0 rfl) ?_
  refine k_get (ci := 0) (C := R_P) (T := T_P) (N := 7) hx hb hts (fun w q => gG_in (inG_P w q)) hown hK hP 0 rfl rfl 2 (by decide) (hts _ (gG_in mw_217)) rfl dP_before_1 ?_
  obtain ⟨P1, g1, h⟩ := h
  refine kc_vp (As := []) (rest := []) (ci := 3) (q0 := 3) S (c_R_isPeeled l dC dI ad kc nn σ g1) (cwV 0 hts (gV mw_488 mw_489 mw_490 mw_5 k_R_isPeeled) rfl rfl rfl (by decide +kernel) ⟨Nat.le_of_ble_eq_true rfl, Nat.le_of_ble_eq_true rfl⟩) hK hN hP rfl rfl rfl hl.1 rfl (Nat.le_of_ble_eq_true rfl) dP_before_4 ⟨Nat.zero_le _, Nat.zero_le _⟩ (fun r1 hp => ?_)
  have h := h r1 hp
  obtain ⟨q1, h⟩ := h
  obtain ⟨ht, hf⟩ := h
  refine ki_if_ne (tgt := 20) hx hb dP_before_7 (by decide) q1 (fun c1 => ?_) (fun c1 => ?_)
  · have h := ht c1
    refine lv_iload_n hx hb dP_before_20 rfl (lv_at hl 1 rfl) ?_
    refine lv_iconst (v := iI 0) hx hb dP_before_21 rfl ?_
    refine lv_aload_n hx hb dP_before_22 rfl (lv_at hl 0 rfl) ?_
    refine k_get (ci := 0) (C := R_P) (T := T_P) (N := 7) hx hb hts (fun w q => gG_in (inG_P w q)) hown hK hP 0 rfl rfl 2 (by decide) (hts _ (gG_in mw_217)) rfl dP_before_23 ?_
    refine kc_vp (As := []) (rest := [.int (iI 0), .int (iI p0)]) (ci := 3) (q0 := 3) S (c_R_turns l dC dI ad kc nn σ (P := fun r => (σ 3 3) = r) rfl) (cwV 0 hts (gV mw_476 mw_477 mw_478 mw_5 k_R_turns) rfl rfl rfl (by decide +kernel) ⟨Nat.le_of_ble_eq_true rfl, Nat.le_of_ble_eq_true rfl⟩) hK hN hP rfl rfl rfl hl.1 rfl (Nat.le_of_ble_eq_true rfl) dP_before_26 ⟨Nat.zero_le _, Nat.zero_le _⟩ (fun r2 hp => ?_)
    subst hp
    obtain ⟨P2, g2, h⟩ := h
    refine kc_sp (As := [.int (iI p0), .int (iI 0), .int (iI (σ 3 3))]) (rest := []) S (c_P_isWithin l dC dI (tyC kc) (wC ad kc nn) nn σ p0 0 (σ 3 3) g2) (cwS 3 hts (gS mw_425 mw_332 mw_1 k_P_isWithin) rfl rfl rfl (by decide +kernel) ⟨Nat.le_of_ble_eq_true rfl, Nat.le_of_ble_eq_true rfl⟩) hK hN hP rfl hl.1 rfl (Nat.le_of_ble_eq_true rfl) dP_before_29 ⟨Nat.zero_le _, Nat.zero_le _⟩ (fun r3 hp => ?_)
    have h := h r3 hp
    obtain ⟨q2, h⟩ := h
    obtain ⟨ht, hf⟩ := h
    refine ki_if_ne (tgt := 45) hx hb dP_before_32 (by decide) q2 (fun c2 => ?_) (fun c2 => ?_)
    · have h := ht c2
      refine lv_aload_n hx hb dP_before_45 rfl (lv_at hl 0 rfl) ?_
      refine k_get (ci := 0) (C := R_P) (T := T_P) (N := 7) hx hb hts (fun w q => gG_in (inG_P w q)) hown hK hP 0 rfl rfl 2 (by decide) (hts _ (gG_in mw_217)) rfl dP_before_46 ?_
      refine lv_iload_n hx hb dP_before_49 rfl (lv_at hl 1 rfl) ?_
      obtain ⟨P3, g3, h⟩ := h
      refine kc_vp (As := [.int (iI p0)]) (rest := []) (ci := 3) (q0 := 3) S (c_R_lengthBefore l dC dI ad kc nn σ p0 g3) (cwV 1 hts (gV mw_509 mw_510 mw_511 mw_5 k_R_lengthBefore) rfl rfl rfl (by decide +kernel) ⟨Nat.le_of_ble_eq_true rfl, Nat.le_of_ble_eq_true rfl⟩) hK hN hP rfl rfl rfl hl.1 rfl (Nat.le_of_ble_eq_true rfl) dP_before_50 ⟨Nat.zero_le _, Nat.zero_le _⟩ (fun r4 hp => ?_)
      have h := h r4 hp
      exact False.elim h
    · have h := hf c2
      exact k_thr (own := R_P) (cls := exC 0) (text := "no such turn") (names := exN) 0 rfl hx hb hlocks hno htr (hl.1.trans hml.symm) hown (hts _ (gG_in mw_334)) (hts _ (gG_in mw_14)) (hst.2.2.2.2.2.2.use (k := 133) (tx := "no such turn") (List.mem_of_getElem? (i := 5) rfl)) (by decide +kernel) (by decide +kernel) (own_0 hts hst) (hts _ (gG_in mw_335)) dP_before_35 dP_before_38 dP_before_39 dP_before_41 dP_before_44 ⟨Nat.le_of_ble_eq_true rfl, Nat.le_of_ble_eq_true rfl, Nat.le_of_ble_eq_true rfl, Nat.le_of_ble_eq_true rfl⟩ h
  · have h := hf c1
    exact k_thr (own := R_P) (cls := exC 2) (text := "nothing is peeled") (names := exN) 2 rfl hx hb hlocks hno htr (hl.1.trans hml.symm) hown (hts _ (gG_in mw_492)) (hts _ (gG_in mw_16)) (hst.2.2.2.2.2.2.use (k := 130) (tx := "nothing is peeled") (List.mem_of_getElem? (i := 4) rfl)) (by decide +kernel) (by decide +kernel) (own_2 hts hst) (hts _ (gG_in mw_493)) dP_before_10 dP_before_13 dP_before_14 dP_before_16 dP_before_19 ⟨Nat.le_of_ble_eq_true rfl, Nat.le_of_ble_eq_true rfl, Nat.le_of_ble_eq_true rfl, Nat.le_of_ble_eq_true rfl⟩ h
abbrev rt_P_fault : Room := { frames := 6, cells := 1, slots := 6, locals := 82 }
set_option maxHeartbeats 4000000 in
set_option maxRecDepth 100000 in
theorem t_P_fault (l : Launch) (htr : l.stackTraces = false) (dC : Nat → ClassId) (dI : Nat → Nat → Nat) (ad : Nat → Nat) (kc : Nat → ClassId) (nn : Nat → Nat) (σ : kM) (p0 : Int) (p1 : Int) (p2 : Int) {Px : Nat → Prop} (h : wt_P_fault nn σ p0 p1 p2 Px) : MetT l y_P_fault ws_P_fault rt_P_fault (kPt (dC, dI) vwC (tyC kc) (wC ad kc nn σ) nsG [.ref (ad 0), .int (iI p0), .int (iI p1), .int (iI p2)]) (kQt Px exC) 1 6 := by
  refine k_enterT (cc := b_P_fault) (maxL := 4) (ret := (some .int)) (by decide) rfl (Nat.le_of_ble_eq_true rfl) ?_
  intro p e s m below meth c ls S hlocks hno hP hK hN hst hl
  generalize ([.ref (ad 0), .int (iI p0), .int (iI p1), .int (iI p2)] : List Value).toArray = args at S ⊢
  obtain ⟨hx, hb, hml, hown, hts⟩ := id S
  have hl : lv_has ls 4 [(0, .ref (ad 0)), (1, .int (iI p0)), (2, .int (iI p1)), (3, .int (iI p2))] := hl
  unfold wt_P_fault at h
  refine lv_iload_n hx hb dP_fault_0 rfl (lv_at hl 1 rfl) ?_
  refine lv_iconst (v := iI 0) hx hb dP_fault_1 rfl ?_
  refine lv_sipush (v := iI 359) hx hb dP_fault_2 (by decide) ?_
  obtain ⟨P1, g1, h⟩ := h
  refine kc_sp (As := [.int (iI p0), .int (iI 0), .int (iI 359)]) (rest := []) S (c_P_isWithin l dC dI (tyC kc) (wC ad kc nn) nn σ p0 0 359 g1) (cwS 3 hts (gS mw_425 mw_332 mw_1 k_P_isWithin) rfl rfl rfl (by decide +kernel) ⟨Nat.le_of_ble_eq_true rfl, Nat.le_of_ble_eq_true rfl⟩) hK hN hP rfl hl.1 rfl (Nat.le_of_ble_eq_true rfl) dP_fault_5 ⟨Nat.zero_le _, Nat.zero_le _⟩ (fun r1 hp => ?_)
  have h := h r1 hp
  obtain ⟨q1, h⟩ := h
  obtain ⟨ht, hf⟩ := h
  refine ki_if_eq (tgt := 29) hx hb dP_fault_8 (by decide) q1 (fun c1 => ?_) (fun c1 => ?_)
  · have h := ht c1
    exact k_thr (own := R_P) (cls := exC 1) (text := "angle is 0 .. 359, radius 0 .. 1000, kind 0 .. 3") (names := exN) 1 rfl hx hb hlocks hno htr (hl.1.trans hml.symm) hown (hts _ (gG_in mw_455)) (hts _ (gG_in mw_15)) (hst.2.2.2.2.2.2.use (k := 142) (tx := "angle is 0 .. 359, radius 0 .. 1000, kind 0 .. 3") (List.mem_of_getElem? (i := 6) rfl)) (by decide +kernel) (by decide +kernel) (own_1 hts hst) (hts _ (gG_in mw_456)) dP_fault_29 dP_fault_32 dP_fault_33 dP_fault_35 dP_fault_38 ⟨Nat.le_of_ble_eq_true rfl, Nat.le_of_ble_eq_true rfl, Nat.le_of_ble_eq_true rfl, Nat.le_of_ble_eq_true rfl⟩ h
  · have h := hf c1
    refine lv_iload_n hx hb dP_fault_11 rfl (lv_at hl 2 rfl) ?_
    refine lv_iconst (v := iI 0) hx hb dP_fault_12 rfl ?_
    refine lv_sipush (v := iI 1000) hx hb dP_fault_13 (by decide) ?_
    obtain ⟨P2, g2, h⟩ := h
    refine kc_sp (As := [.int (iI p1), .int (iI 0), .int (iI 1000)]) (rest := []) S (c_P_isWithin l dC dI (tyC kc) (wC ad kc nn) nn σ p1 0 1000 g2) (cwS 3 hts (gS mw_425 mw_332 mw_1 k_P_isWithin) rfl rfl rfl (by decide +kernel) ⟨Nat.le_of_ble_eq_true rfl, Nat.le_of_ble_eq_true rfl⟩) hK hN hP rfl hl.1 rfl (Nat.le_of_ble_eq_true rfl) dP_fault_16 ⟨Nat.zero_le _, Nat.zero_le _⟩ (fun r2 hp => ?_)
    have h := h r2 hp
    obtain ⟨q2, h⟩ := h
    obtain ⟨ht, hf⟩ := h
    refine ki_if_eq (tgt := 29) hx hb dP_fault_19 (by decide) q2 (fun c2 => ?_) (fun c2 => ?_)
    · have h := ht c2
      exact k_thr (own := R_P) (cls := exC 1) (text := "angle is 0 .. 359, radius 0 .. 1000, kind 0 .. 3") (names := exN) 1 rfl hx hb hlocks hno htr (hl.1.trans hml.symm) hown (hts _ (gG_in mw_455)) (hts _ (gG_in mw_15)) (hst.2.2.2.2.2.2.use (k := 142) (tx := "angle is 0 .. 359, radius 0 .. 1000, kind 0 .. 3") (List.mem_of_getElem? (i := 6) rfl)) (by decide +kernel) (by decide +kernel) (own_1 hts hst) (hts _ (gG_in mw_456)) dP_fault_29 dP_fault_32 dP_fault_33 dP_fault_35 dP_fault_38 ⟨Nat.le_of_ble_eq_true rfl, Nat.le_of_ble_eq_true rfl, Nat.le_of_ble_eq_true rfl, Nat.le_of_ble_eq_true rfl⟩ h
    · have h := hf c2
      refine lv_iload_n hx hb dP_fault_22 rfl (lv_at hl 3 rfl) ?_
      obtain ⟨P3, g3, h⟩ := h
      refine kc_sp (As := [.int (iI p2)]) (rest := []) S (c_P_isKind l dC dI (tyC kc) (wC ad kc nn) nn σ p2 g3) (cwS 1 hts (gS mw_523 mw_524 mw_1 k_P_isKind) rfl rfl rfl (by decide +kernel) ⟨Nat.le_of_ble_eq_true rfl, Nat.le_of_ble_eq_true rfl⟩) hK hN hP rfl hl.1 rfl (Nat.le_of_ble_eq_true rfl) dP_fault_23 ⟨Nat.zero_le _, Nat.zero_le _⟩ (fun r3 hp => ?_)
      have h := h r3 hp
      obtain ⟨q3, h⟩ := h
      obtain ⟨ht, hf⟩ := h
      refine ki_if_ne (tgt := 39) hx hb dP_fault_26 (by decide) q3 (fun c3 => ?_) (fun c3 => ?_)
      · have h := ht c3
        refine lv_aload_n hx hb dP_fault_39 rfl (lv_at hl 0 rfl) ?_
        refine k_get (ci := 0) (C := R_P) (T := T_P) (N := 7) hx hb hts (fun w q => gG_in (inG_P w q)) hown hK hP 0 rfl rfl 3 (by decide) (hts _ (gG_in mw_218)) rfl dP_fault_40 ?_
        obtain ⟨P4, g4, h⟩ := h
        refine kc_vp (As := []) (rest := []) (ci := 4) (q0 := 4) S (c_F_isFull l dC dI ad kc nn σ g4) (cwV 0 hts (gV mw_527 mw_528 mw_529 mw_6 k_F_isFull) rfl rfl rfl (by decide +kernel) ⟨Nat.le_of_ble_eq_true rfl, Nat.le_of_ble_eq_true rfl⟩) hK hN hP rfl rfl rfl hl.1 rfl (Nat.le_of_ble_eq_true rfl) dP_fault_43 ⟨Nat.zero_le _, Nat.zero_le _⟩ (fun r4 hp => ?_)
        have h := h r4 hp
        obtain ⟨q4, h⟩ := h
        obtain ⟨ht, hf⟩ := h
        refine ki_if_eq (tgt := 59) hx hb dP_fault_46 (by decide) q4 (fun c4 => ?_) (fun c4 => ?_)
        · have h := ht c4
          refine lv_aload_n hx hb dP_fault_59 rfl (lv_at hl 0 rfl) ?_
          refine k_get (ci := 0) (C := R_P) (T := T_P) (N := 7) hx hb hts (fun w q => gG_in (inG_P w q)) hown hK hP 0 rfl rfl 5 (by decide) (hts _ (gG_in mw_220)) rfl dP_fault_60 ?_
          exact False.elim h
        · have h := hf c4
          exact k_thr (own := R_P) (cls := exC 2) (text := "there are 16 faults") (names := exN) 2 rfl hx hb hlocks hno htr (hl.1.trans hml.symm) hown (hts _ (gG_in mw_492)) (hts _ (gG_in mw_16)) (hst.2.2.2.2.2.2.use (k := 147) (tx := "there are 16 faults") (List.mem_of_getElem? (i := 7) rfl)) (by decide +kernel) (by decide +kernel) (own_2 hts hst) (hts _ (gG_in mw_493)) dP_fault_49 dP_fault_52 dP_fault_53 dP_fault_55 dP_fault_58 ⟨Nat.le_of_ble_eq_true rfl, Nat.le_of_ble_eq_true rfl, Nat.le_of_ble_eq_true rfl, Nat.le_of_ble_eq_true rfl⟩ h
      · have h := hf c3
        exact k_thr (own := R_P) (cls := exC 1) (text := "angle is 0 .. 359, radius 0 .. 1000, kind 0 .. 3") (names := exN) 1 rfl hx hb hlocks hno htr (hl.1.trans hml.symm) hown (hts _ (gG_in mw_455)) (hts _ (gG_in mw_15)) (hst.2.2.2.2.2.2.use (k := 142) (tx := "angle is 0 .. 359, radius 0 .. 1000, kind 0 .. 3") (List.mem_of_getElem? (i := 6) rfl)) (by decide +kernel) (by decide +kernel) (own_1 hts hst) (hts _ (gG_in mw_456)) dP_fault_29 dP_fault_32 dP_fault_33 dP_fault_35 dP_fault_38 ⟨Nat.le_of_ble_eq_true rfl, Nat.le_of_ble_eq_true rfl, Nat.le_of_ble_eq_true rfl, Nat.le_of_ble_eq_true rfl⟩ h
abbrev rt_P_unrolled : Room := { frames := 6, cells := 1, slots := 6, locals := 87 }
set_option maxHeartbeats 4000000 in
set_option maxRecDepth 100000 in
theorem t_P_unrolled (l : Launch) (htr : l.stackTraces = false) (dC : Nat → ClassId) (dI : Nat → Nat → Nat) (ad : Nat → Nat) (kc : Nat → ClassId) (nn : Nat → Nat) (σ : kM) (p0 : Int) {Px : Nat → Prop} (h : wt_P_unrolled nn σ p0 Px) : MetT l y_P_unrolled ws_P_unrolled rt_P_unrolled (kPt (dC, dI) vwC (tyC kc) (wC ad kc nn σ) nsG [.ref (ad 0), .int (iI p0)]) (kQt Px exC) 1 6 := by
  refine k_enterT (cc := b_P_unrolled) (maxL := 2) (ret := (some .int)) (by decide) rfl (Nat.le_of_ble_eq_true rfl) ?_
  intro p e s m below meth c ls S hlocks hno hP hK hN hst hl
  generalize ([.ref (ad 0), .int (iI p0)] : List Value).toArray = args at S ⊢
  obtain ⟨hx, hb, hml, hown, hts⟩ := id S
  have hl : lv_has ls 2 [(0, .ref (ad 0)), (1, .int (iI p0))] := hl
  unfold wt_P_unrolled at h
  refine lv_aload_n hx hb dP_unrolled_0 rfl (lv_at hl 0 rfl) ?_
  refine k_get (ci := 0) (C := R_P) (T := T_P) (N := 7) hx hb hts (fun w q => gG_in (inG_P w q)) hown hK hP 0 rfl rfl 3 (by decide) (hts _ (gG_in mw_218)) rfl dP_unrolled_1 ?_
  refine lv_iload_n hx hb dP_unrolled_4 rfl (lv_at hl 1 rfl) ?_
  obtain ⟨P1, g1, h⟩ := h
  refine kc_vp (As := [.int (iI p0)]) (rest := []) (ci := 4) (q0 := 4) S (c_F_has l dC dI ad kc nn σ p0 g1) (cwV 1 hts (gV mw_543 mw_544 mw_545 mw_6 k_F_has) rfl rfl rfl (by decide +kernel) ⟨Nat.le_of_ble_eq_true rfl, Nat.le_of_ble_eq_true rfl⟩) hK hN hP rfl rfl rfl hl.1 rfl (Nat.le_of_ble_eq_true rfl) dP_unrolled_5 ⟨Nat.zero_le _, Nat.zero_le _⟩ (fun r1 hp => ?_)
  have h := h r1 hp
  obtain ⟨q1, h⟩ := h
  obtain ⟨ht, hf⟩ := h
  refine ki_if_ne (tgt := 21) hx hb dP_unrolled_8 (by decide) q1 (fun c1 => ?_) (fun c1 => ?_)
  · have h := ht c1
    refine lv_aload_n hx hb dP_unrolled_21 rfl (lv_at hl 0 rfl) ?_
    refine k_get (ci := 0) (C := R_P) (T := T_P) (N := 7) hx hb hts (fun w q => gG_in (inG_P w q)) hown hK hP 0 rfl rfl 2 (by decide) (hts _ (gG_in mw_217)) rfl dP_unrolled_22 ?_
    obtain ⟨P2, g2, h⟩ := h
    refine kc_vp (As := []) (rest := []) (ci := 3) (q0 := 3) S (c_R_isPeeled l dC dI ad kc nn σ g2) (cwV 0 hts (gV mw_488 mw_489 mw_490 mw_5 k_R_isPeeled) rfl rfl rfl (by decide +kernel) ⟨Nat.le_of_ble_eq_true rfl, Nat.le_of_ble_eq_true rfl⟩) hK hN hP rfl rfl rfl hl.1 rfl (Nat.le_of_ble_eq_true rfl) dP_unrolled_25 ⟨Nat.zero_le _, Nat.zero_le _⟩ (fun r2 hp => ?_)
    have h := h r2 hp
    obtain ⟨q2, h⟩ := h
    obtain ⟨ht, hf⟩ := h
    refine ki_if_ne (tgt := 41) hx hb dP_unrolled_28 (by decide) q2 (fun c2 => ?_) (fun c2 => ?_)
    · have h := ht c2
      refine lv_aload_n hx hb dP_unrolled_41 rfl (lv_at hl 0 rfl) ?_
      refine k_get (ci := 0) (C := R_P) (T := T_P) (N := 7) hx hb hts (fun w q => gG_in (inG_P w q)) hown hK hP 0 rfl rfl 3 (by decide) (hts _ (gG_in mw_218)) rfl dP_unrolled_42 ?_
      refine lv_aload_n hx hb dP_unrolled_45 rfl (lv_at hl 0 rfl) ?_
      refine k_get (ci := 0) (C := R_P) (T := T_P) (N := 7) hx hb hts (fun w q => gG_in (inG_P w q)) hown hK hP 0 rfl rfl 2 (by decide) (hts _ (gG_in mw_217)) rfl dP_unrolled_46 ?_
      refine lv_iload_n hx hb dP_unrolled_49 rfl (lv_at hl 1 rfl) ?_
      obtain ⟨P3, g3, h⟩ := h
      refine kc_vp (As := [.ref (ad 3), .int (iI p0)]) (rest := []) (ci := 4) (q0 := 4) S (c_F_placeIn l dC dI ad kc nn σ p0 g3) (cwV 2 hts (gV mw_549 mw_550 mw_551 mw_6 k_F_placeIn) rfl rfl rfl (by decide +kernel) ⟨Nat.le_of_ble_eq_true rfl, Nat.le_of_ble_eq_true rfl⟩) hK hN hP rfl rfl rfl hl.1 rfl (Nat.le_of_ble_eq_true rfl) dP_unrolled_50 ⟨Nat.zero_le _, Nat.zero_le _⟩ (fun r3 hp => ?_)
      have h := h r3 hp
      exact False.elim h
    · have h := hf c2
      exact k_thr (own := R_P) (cls := exC 2) (text := "nothing is peeled") (names := exN) 2 rfl hx hb hlocks hno htr (hl.1.trans hml.symm) hown (hts _ (gG_in mw_492)) (hts _ (gG_in mw_16)) (hst.2.2.2.2.2.2.use (k := 130) (tx := "nothing is peeled") (List.mem_of_getElem? (i := 4) rfl)) (by decide +kernel) (by decide +kernel) (own_2 hts hst) (hts _ (gG_in mw_493)) dP_unrolled_31 dP_unrolled_34 dP_unrolled_35 dP_unrolled_37 dP_unrolled_40 ⟨Nat.le_of_ble_eq_true rfl, Nat.le_of_ble_eq_true rfl, Nat.le_of_ble_eq_true rfl, Nat.le_of_ble_eq_true rfl⟩ h
  · have h := hf c1
    exact k_thr (own := R_P) (cls := exC 0) (text := "no such fault") (names := exN) 0 rfl hx hb hlocks hno htr (hl.1.trans hml.symm) hown (hts _ (gG_in mw_334)) (hts _ (gG_in mw_14)) (hst.2.2.2.2.2.2.use (k := 155) (tx := "no such fault") (List.mem_of_getElem? (i := 8) rfl)) (by decide +kernel) (by decide +kernel) (own_0 hts hst) (hts _ (gG_in mw_335)) dP_unrolled_11 dP_unrolled_14 dP_unrolled_15 dP_unrolled_17 dP_unrolled_20 ⟨Nat.le_of_ble_eq_true rfl, Nat.le_of_ble_eq_true rfl, Nat.le_of_ble_eq_true rfl, Nat.le_of_ble_eq_true rfl⟩ h
abbrev rt_P_leaf : Room := { frames := 6, cells := 1, slots := 6, locals := 82 }
set_option maxHeartbeats 4000000 in
set_option maxRecDepth 100000 in
theorem t_P_leaf (l : Launch) (htr : l.stackTraces = false) (dC : Nat → ClassId) (dI : Nat → Nat → Nat) (ad : Nat → Nat) (kc : Nat → ClassId) (nn : Nat → Nat) (σ : kM) (p0 : Int) (p1 : Int) {Px : Nat → Prop} (h : wt_P_leaf nn σ p0 p1 Px) : MetT l y_P_leaf ws_P_leaf rt_P_leaf (kPt (dC, dI) vwC (tyC kc) (wC ad kc nn σ) nsG [.ref (ad 0), .int (iI p0), .int (iI p1)]) (kQt Px exC) 1 6 := by
  refine k_enterT (cc := b_P_leaf) (maxL := 3) (ret := (some .int)) (by decide) rfl (Nat.le_of_ble_eq_true rfl) ?_
  intro p e s m below meth c ls S hlocks hno hP hK hN hst hl
  generalize ([.ref (ad 0), .int (iI p0), .int (iI p1)] : List Value).toArray = args at S ⊢
  obtain ⟨hx, hb, hml, hown, hts⟩ := id S
  have hl : lv_has ls 3 [(0, .ref (ad 0)), (1, .int (iI p0)), (2, .int (iI p1))] := hl
  unfold wt_P_leaf at h
  refine lv_iload_n hx hb dP_leaf_0 rfl (lv_at hl 1 rfl) ?_
  refine lv_iconst (v := iI 1) hx hb dP_leaf_1 rfl ?_
  refine lv_sipush (v := iI 500) hx hb dP_leaf_2 (by decide) ?_
  obtain ⟨P1, g1, h⟩ := h
  refine kc_sp (As := [.int (iI p0), .int (iI 1), .int (iI 500)]) (rest := []) S (c_P_isWithin l dC dI (tyC kc) (wC ad kc nn) nn σ p0 1 500 g1) (cwS 3 hts (gS mw_425 mw_332 mw_1 k_P_isWithin) rfl rfl rfl (by decide +kernel) ⟨Nat.le_of_ble_eq_true rfl, Nat.le_of_ble_eq_true rfl⟩) hK hN hP rfl hl.1 rfl (Nat.le_of_ble_eq_true rfl) dP_leaf_5 ⟨Nat.zero_le _, Nat.zero_le _⟩ (fun r1 hp => ?_)
  have h := h r1 hp
  obtain ⟨q1, h⟩ := h
  obtain ⟨ht, hf⟩ := h
  refine ki_if_eq (tgt := 21) hx hb dP_leaf_8 (by decide) q1 (fun c1 => ?_) (fun c1 => ?_)
  · have h := ht c1
    exact k_thr (own := R_P) (cls := exC 1) (text := "width is 1 .. 500, worth 0 .. 1000000") (names := exN) 1 rfl hx hb hlocks hno htr (hl.1.trans hml.symm) hown (hts _ (gG_in mw_455)) (hts _ (gG_in mw_15)) (hst.2.2.2.2.2.2.use (k := 162) (tx := "width is 1 .. 500, worth 0 .. 1000000") (List.mem_of_getElem? (i := 9) rfl)) (by decide +kernel) (by decide +kernel) (own_1 hts hst) (hts _ (gG_in mw_456)) dP_leaf_21 dP_leaf_24 dP_leaf_25 dP_leaf_27 dP_leaf_30 ⟨Nat.le_of_ble_eq_true rfl, Nat.le_of_ble_eq_true rfl, Nat.le_of_ble_eq_true rfl, Nat.le_of_ble_eq_true rfl⟩ h
  · have h := hf c1
    refine lv_iload_n hx hb dP_leaf_11 rfl (lv_at hl 2 rfl) ?_
    refine lv_iconst (v := iI 0) hx hb dP_leaf_12 rfl ?_
    refine lv_ldc (v := iI 1000000) hx hb hown (hts _ (gG_in mc_565)) dP_leaf_13 ?_
    obtain ⟨P2, g2, h⟩ := h
    refine kc_sp (As := [.int (iI p1), .int (iI 0), .int (iI 1000000)]) (rest := []) S (c_P_isWithin l dC dI (tyC kc) (wC ad kc nn) nn σ p1 0 1000000 g2) (cwS 3 hts (gS mw_425 mw_332 mw_1 k_P_isWithin) rfl rfl rfl (by decide +kernel) ⟨Nat.le_of_ble_eq_true rfl, Nat.le_of_ble_eq_true rfl⟩) hK hN hP rfl hl.1 rfl (Nat.le_of_ble_eq_true rfl) dP_leaf_15 ⟨Nat.zero_le _, Nat.zero_le _⟩ (fun r2 hp => ?_)
    have h := h r2 hp
    obtain ⟨q2, h⟩ := h
    obtain ⟨ht, hf⟩ := h
    refine ki_if_ne (tgt := 31) hx hb dP_leaf_18 (by decide) q2 (fun c2 => ?_) (fun c2 => ?_)
    · have h := ht c2
      refine lv_aload_n hx hb dP_leaf_31 rfl (lv_at hl 0 rfl) ?_
      refine k_get (ci := 0) (C := R_P) (T := T_P) (N := 7) hx hb hts (fun w q => gG_in (inG_P w q)) hown hK hP 0 rfl rfl 4 (by decide) (hts _ (gG_in mw_219)) rfl dP_leaf_32 ?_
      obtain ⟨P3, g3, h⟩ := h
      refine kc_vp (As := []) (rest := []) (ci := 5) (q0 := 5) S (c_L_isFull l dC dI ad kc nn σ g3) (cwV 0 hts (gV mw_567 mw_568 mw_569 mw_7 k_L_isFull) rfl rfl rfl (by decide +kernel) ⟨Nat.le_of_ble_eq_true rfl, Nat.le_of_ble_eq_true rfl⟩) hK hN hP rfl rfl rfl hl.1 rfl (Nat.le_of_ble_eq_true rfl) dP_leaf_35 ⟨Nat.zero_le _, Nat.zero_le _⟩ (fun r3 hp => ?_)
      have h := h r3 hp
      obtain ⟨q3, h⟩ := h
      obtain ⟨ht, hf⟩ := h
      refine ki_if_eq (tgt := 51) hx hb dP_leaf_38 (by decide) q3 (fun c3 => ?_) (fun c3 => ?_)
      · have h := ht c3
        refine lv_aload_n hx hb dP_leaf_51 rfl (lv_at hl 0 rfl) ?_
        refine k_get (ci := 0) (C := R_P) (T := T_P) (N := 7) hx hb hts (fun w q => gG_in (inG_P w q)) hown hK hP 0 rfl rfl 5 (by decide) (hts _ (gG_in mw_220)) rfl dP_leaf_52 ?_
        exact False.elim h
      · have h := hf c3
        exact k_thr (own := R_P) (cls := exC 2) (text := "there are 6 leaves") (names := exN) 2 rfl hx hb hlocks hno htr (hl.1.trans hml.symm) hown (hts _ (gG_in mw_492)) (hts _ (gG_in mw_16)) (hst.2.2.2.2.2.2.use (k := 165) (tx := "there are 6 leaves") (List.mem_of_getElem? (i := 10) rfl)) (by decide +kernel) (by decide +kernel) (own_2 hts hst) (hts _ (gG_in mw_493)) dP_leaf_41 dP_leaf_44 dP_leaf_45 dP_leaf_47 dP_leaf_50 ⟨Nat.le_of_ble_eq_true rfl, Nat.le_of_ble_eq_true rfl, Nat.le_of_ble_eq_true rfl, Nat.le_of_ble_eq_true rfl⟩ h
    · have h := hf c2
      exact k_thr (own := R_P) (cls := exC 1) (text := "width is 1 .. 500, worth 0 .. 1000000") (names := exN) 1 rfl hx hb hlocks hno htr (hl.1.trans hml.symm) hown (hts _ (gG_in mw_455)) (hts _ (gG_in mw_15)) (hst.2.2.2.2.2.2.use (k := 162) (tx := "width is 1 .. 500, worth 0 .. 1000000") (List.mem_of_getElem? (i := 9) rfl)) (by decide +kernel) (by decide +kernel) (own_1 hts hst) (hts _ (gG_in mw_456)) dP_leaf_21 dP_leaf_24 dP_leaf_25 dP_leaf_27 dP_leaf_30 ⟨Nat.le_of_ble_eq_true rfl, Nat.le_of_ble_eq_true rfl, Nat.le_of_ble_eq_true rfl, Nat.le_of_ble_eq_true rfl⟩ h
abbrev rt_P_bars : Room := { frames := 6, cells := 1, slots := 6, locals := 82 }
set_option maxHeartbeats 4000000 in
set_option maxRecDepth 100000 in
theorem t_P_bars (l : Launch) (htr : l.stackTraces = false) (dC : Nat → ClassId) (dI : Nat → Nat → Nat) (ad : Nat → Nat) (kc : Nat → ClassId) (nn : Nat → Nat) (σ : kM) (p0 : Int) (p1 : Int) (p2 : Int) {Px : Nat → Prop} (h : wt_P_bars nn σ p0 p1 p2 Px) : MetT l y_P_bars ws_P_bars rt_P_bars (kPt (dC, dI) vwC (tyC kc) (wC ad kc nn σ) nsG [.ref (ad 0), .int (iI p0), .int (iI p1), .int (iI p2)]) (kQt Px exC) 1 6 := by
  refine k_enterT (cc := b_P_bars) (maxL := 5) (ret := (some .boolean)) (by decide) rfl (Nat.le_of_ble_eq_true rfl) ?_
  intro p e s m below meth c ls S hlocks hno hP hK hN hst hl
  generalize ([.ref (ad 0), .int (iI p0), .int (iI p1), .int (iI p2)] : List Value).toArray = args at S ⊢
  obtain ⟨hx, hb, hml, hown, hts⟩ := id S
  have hl : lv_has ls 5 [(0, .ref (ad 0)), (1, .int (iI p0)), (2, .int (iI p1)), (3, .int (iI p2))] := hl
  unfold wt_P_bars at h
  refine lv_aload_n hx hb dP_bars_0 rfl (lv_at hl 0 rfl) ?_
  refine k_get (ci := 0) (C := R_P) (T := T_P) (N := 7) hx hb hts (fun w q => gG_in (inG_P w q)) hown hK hP 0 rfl rfl 4 (by decide) (hts _ (gG_in mw_219)) rfl dP_bars_1 ?_
  refine lv_iload_n hx hb dP_bars_4 rfl (lv_at hl 1 rfl) ?_
  obtain ⟨P1, g1, h⟩ := h
  refine kc_vp (As := [.int (iI p0)]) (rest := []) (ci := 5) (q0 := 5) S (c_L_has l dC dI ad kc nn σ p0 g1) (cwV 1 hts (gV mw_583 mw_584 mw_585 mw_7 k_L_has) rfl rfl rfl (by decide +kernel) ⟨Nat.le_of_ble_eq_true rfl, Nat.le_of_ble_eq_true rfl⟩) hK hN hP rfl rfl rfl hl.1 rfl (Nat.le_of_ble_eq_true rfl) dP_bars_5 ⟨Nat.zero_le _, Nat.zero_le _⟩ (fun r1 hp => ?_)
  have h := h r1 hp
  obtain ⟨q1, h⟩ := h
  obtain ⟨ht, hf⟩ := h
  refine ki_if_eq (tgt := 18) hx hb dP_bars_8 (by decide) q1 (fun c1 => ?_) (fun c1 => ?_)
  · have h := ht c1
    exact k_thr (own := R_P) (cls := exC 0) (text := "no such leaf or kind") (names := exN) 0 rfl hx hb hlocks hno htr (hl.1.trans hml.symm) hown (hts _ (gG_in mw_334)) (hts _ (gG_in mw_14)) (hst.2.2.2.2.2.2.use (k := 171) (tx := "no such leaf or kind") (List.mem_of_getElem? (i := 11) rfl)) (by decide +kernel) (by decide +kernel) (own_0 hts hst) (hts _ (gG_in mw_335)) dP_bars_18 dP_bars_21 dP_bars_22 dP_bars_24 dP_bars_27 ⟨Nat.le_of_ble_eq_true rfl, Nat.le_of_ble_eq_true rfl, Nat.le_of_ble_eq_true rfl, Nat.le_of_ble_eq_true rfl⟩ h
  · have h := hf c1
    refine lv_iload_n hx hb dP_bars_11 rfl (lv_at hl 2 rfl) ?_
    obtain ⟨P2, g2, h⟩ := h
    refine kc_sp (As := [.int (iI p1)]) (rest := []) S (c_P_isKind l dC dI (tyC kc) (wC ad kc nn) nn σ p1 g2) (cwS 1 hts (gS mw_523 mw_524 mw_1 k_P_isKind) rfl rfl rfl (by decide +kernel) ⟨Nat.le_of_ble_eq_true rfl, Nat.le_of_ble_eq_true rfl⟩) hK hN hP rfl hl.1 rfl (Nat.le_of_ble_eq_true rfl) dP_bars_12 ⟨Nat.zero_le _, Nat.zero_le _⟩ (fun r2 hp => ?_)
    have h := h r2 hp
    obtain ⟨q2, h⟩ := h
    obtain ⟨ht, hf⟩ := h
    refine ki_if_ne (tgt := 28) hx hb dP_bars_15 (by decide) q2 (fun c2 => ?_) (fun c2 => ?_)
    · have h := ht c2
      refine lv_aload_n hx hb dP_bars_28 rfl (lv_at hl 0 rfl) ?_
      refine k_get (ci := 0) (C := R_P) (T := T_P) (N := 7) hx hb hts (fun w q => gG_in (inG_P w q)) hown hK hP 0 rfl rfl 4 (by decide) (hts _ (gG_in mw_219)) rfl dP_bars_29 ?_
      refine lv_iload_n hx hb dP_bars_32 rfl (lv_at hl 1 rfl) ?_
      refine lv_iload_n hx hb dP_bars_33 rfl (lv_at hl 2 rfl) ?_
      refine lv_iload_n hx hb dP_bars_34 rfl (lv_at hl 3 rfl) ?_
      exact False.elim h
    · have h := hf c2
      exact k_thr (own := R_P) (cls := exC 0) (text := "no such leaf or kind") (names := exN) 0 rfl hx hb hlocks hno htr (hl.1.trans hml.symm) hown (hts _ (gG_in mw_334)) (hts _ (gG_in mw_14)) (hst.2.2.2.2.2.2.use (k := 171) (tx := "no such leaf or kind") (List.mem_of_getElem? (i := 11) rfl)) (by decide +kernel) (by decide +kernel) (own_0 hts hst) (hts _ (gG_in mw_335)) dP_bars_18 dP_bars_21 dP_bars_22 dP_bars_24 dP_bars_27 ⟨Nat.le_of_ble_eq_true rfl, Nat.le_of_ble_eq_true rfl, Nat.le_of_ble_eq_true rfl, Nat.le_of_ble_eq_true rfl⟩ h
abbrev rt_P_clip : Room := { frames := 6, cells := 1, slots := 6, locals := 82 }
set_option maxHeartbeats 4000000 in
set_option maxRecDepth 100000 in
theorem t_P_clip (l : Launch) (htr : l.stackTraces = false) (dC : Nat → ClassId) (dI : Nat → Nat → Nat) (ad : Nat → Nat) (kc : Nat → ClassId) (nn : Nat → Nat) (σ : kM) (p0 : Int) {Px : Nat → Prop} (h : wt_P_clip nn σ p0 Px) : MetT l y_P_clip ws_P_clip rt_P_clip (kPt (dC, dI) vwC (tyC kc) (wC ad kc nn σ) nsG [.ref (ad 0), .int (iI p0)]) (kQt Px exC) 1 6 := by
  refine k_enterT (cc := b_P_clip) (maxL := 2) (ret := (some .int)) (by decide) rfl (Nat.le_of_ble_eq_true rfl) ?_
  intro p e s m below meth c ls S hlocks hno hP hK hN hst hl
  generalize ([.ref (ad 0), .int (iI p0)] : List Value).toArray = args at S ⊢
  obtain ⟨hx, hb, hml, hown, hts⟩ := id S
  have hl : lv_has ls 2 [(0, .ref (ad 0)), (1, .int (iI p0))] := hl
  unfold wt_P_clip at h
  refine lv_iload_n hx hb dP_clip_0 rfl (lv_at hl 1 rfl) ?_
  refine lv_iconst (v := iI 1) hx hb dP_clip_1 rfl ?_
  refine lv_sipush (v := iI 1000) hx hb dP_clip_2 (by decide) ?_
  obtain ⟨P1, g1, h⟩ := h
  refine kc_sp (As := [.int (iI p0), .int (iI 1), .int (iI 1000)]) (rest := []) S (c_P_isWithin l dC dI (tyC kc) (wC ad kc nn) nn σ p0 1 1000 g1) (cwS 3 hts (gS mw_425 mw_332 mw_1 k_P_isWithin) rfl rfl rfl (by decide +kernel) ⟨Nat.le_of_ble_eq_true rfl, Nat.le_of_ble_eq_true rfl⟩) hK hN hP rfl hl.1 rfl (Nat.le_of_ble_eq_true rfl) dP_clip_5 ⟨Nat.zero_le _, Nat.zero_le _⟩ (fun r1 hp => ?_)
  have h := h r1 hp
  obtain ⟨q1, h⟩ := h
  obtain ⟨ht, hf⟩ := h
  refine ki_if_ne (tgt := 21) hx hb dP_clip_8 (by decide) q1 (fun c1 => ?_) (fun c1 => ?_)
  · have h := ht c1
    refine lv_aload_n hx hb dP_clip_21 rfl (lv_at hl 0 rfl) ?_
    refine k_get (ci := 0) (C := R_P) (T := T_P) (N := 7) hx hb hts (fun w q => gG_in (inG_P w q)) hown hK hP 0 rfl rfl 2 (by decide) (hts _ (gG_in mw_217)) rfl dP_clip_22 ?_
    obtain ⟨P2, g2, h⟩ := h
    refine kc_vp (As := []) (rest := []) (ci := 3) (q0 := 3) S (c_R_isPeeled l dC dI ad kc nn σ g2) (cwV 0 hts (gV mw_488 mw_489 mw_490 mw_5 k_R_isPeeled) rfl rfl rfl (by decide +kernel) ⟨Nat.le_of_ble_eq_true rfl, Nat.le_of_ble_eq_true rfl⟩) hK hN hP rfl rfl rfl hl.1 rfl (Nat.le_of_ble_eq_true rfl) dP_clip_25 ⟨Nat.zero_le _, Nat.zero_le _⟩ (fun r2 hp => ?_)
    have h := h r2 hp
    obtain ⟨q2, h⟩ := h
    obtain ⟨ht, hf⟩ := h
    refine ki_if_ne (tgt := 41) hx hb dP_clip_28 (by decide) q2 (fun c2 => ?_) (fun c2 => ?_)
    · have h := ht c2
      refine lv_aload_n hx hb dP_clip_41 rfl (lv_at hl 0 rfl) ?_
      refine k_get (ci := 0) (C := R_P) (T := T_P) (N := 7) hx hb hts (fun w q => gG_in (inG_P w q)) hown hK hP 0 rfl rfl 5 (by decide) (hts _ (gG_in mw_220)) rfl dP_clip_42 ?_
      refine lv_aload_n hx hb dP_clip_45 rfl (lv_at hl 0 rfl) ?_
      refine k_get (ci := 0) (C := R_P) (T := T_P) (N := 7) hx hb hts (fun w q => gG_in (inG_P w q)) hown hK hP 0 rfl rfl 2 (by decide) (hts _ (gG_in mw_217)) rfl dP_clip_46 ?_
      refine lv_aload_n hx hb dP_clip_49 rfl (lv_at hl 0 rfl) ?_
      refine k_get (ci := 0) (C := R_P) (T := T_P) (N := 7) hx hb hts (fun w q => gG_in (inG_P w q)) hown hK hP 0 rfl rfl 3 (by decide) (hts _ (gG_in mw_218)) rfl dP_clip_50 ?_
      refine lv_aload_n hx hb dP_clip_53 rfl (lv_at hl 0 rfl) ?_
      refine k_get (ci := 0) (C := R_P) (T := T_P) (N := 7) hx hb hts (fun w q => gG_in (inG_P w q)) hown hK hP 0 rfl rfl 4 (by decide) (hts _ (gG_in mw_219)) rfl dP_clip_54 ?_
      refine lv_iload_n hx hb dP_clip_57 rfl (lv_at hl 1 rfl) ?_
      exact False.elim h
    · have h := hf c2
      exact k_thr (own := R_P) (cls := exC 2) (text := "nothing is peeled") (names := exN) 2 rfl hx hb hlocks hno htr (hl.1.trans hml.symm) hown (hts _ (gG_in mw_492)) (hts _ (gG_in mw_16)) (hst.2.2.2.2.2.2.use (k := 130) (tx := "nothing is peeled") (List.mem_of_getElem? (i := 4) rfl)) (by decide +kernel) (by decide +kernel) (own_2 hts hst) (hts _ (gG_in mw_493)) dP_clip_31 dP_clip_34 dP_clip_35 dP_clip_37 dP_clip_40 ⟨Nat.le_of_ble_eq_true rfl, Nat.le_of_ble_eq_true rfl, Nat.le_of_ble_eq_true rfl, Nat.le_of_ble_eq_true rfl⟩ h
  · have h := hf c1
    exact k_thr (own := R_P) (cls := exC 1) (text := "step is 1 .. 1000") (names := exN) 1 rfl hx hb hlocks hno htr (hl.1.trans hml.symm) hown (hts _ (gG_in mw_455)) (hts _ (gG_in mw_15)) (hst.2.2.2.2.2.2.use (k := 177) (tx := "step is 1 .. 1000") (List.mem_of_getElem? (i := 12) rfl)) (by decide +kernel) (by decide +kernel) (own_1 hts hst) (hts _ (gG_in mw_456)) dP_clip_11 dP_clip_14 dP_clip_15 dP_clip_17 dP_clip_20 ⟨Nat.le_of_ble_eq_true rfl, Nat.le_of_ble_eq_true rfl, Nat.le_of_ble_eq_true rfl, Nat.le_of_ble_eq_true rfl⟩ h
abbrev rt_P_at : Room := { frames := 6, cells := 1, slots := 6, locals := 82 }
set_option maxHeartbeats 4000000 in
set_option maxRecDepth 100000 in
theorem t_P_at (l : Launch) (htr : l.stackTraces = false) (dC : Nat → ClassId) (dI : Nat → Nat → Nat) (ad : Nat → Nat) (kc : Nat → ClassId) (nn : Nat → Nat) (σ : kM) (p0 : Int) (p1 : Int) {Px : Nat → Prop} (h : wt_P_at nn σ p0 p1 Px) : MetT l y_P_at ws_P_at rt_P_at (kPt (dC, dI) vwC (tyC kc) (wC ad kc nn σ) nsG [.ref (ad 0), .int (iI p0), .int (iI p1)]) (kQt Px exC) 1 6 := by
  refine k_enterT (cc := b_P_at) (maxL := 3) (ret := (some .int)) (by decide) rfl (Nat.le_of_ble_eq_true rfl) ?_
  intro p e s m below meth c ls S hlocks hno hP hK hN hst hl
  generalize ([.ref (ad 0), .int (iI p0), .int (iI p1)] : List Value).toArray = args at S ⊢
  obtain ⟨hx, hb, hml, hown, hts⟩ := id S
  have hl : lv_has ls 3 [(0, .ref (ad 0)), (1, .int (iI p0)), (2, .int (iI p1))] := hl
  unfold wt_P_at at h
  refine lv_aload_n hx hb dP_at_0 rfl (lv_at hl 0 rfl) ?_
  refine k_get (ci := 0) (C := R_P) (T := T_P) (N := 7) hx hb hts (fun w q => gG_in (inG_P w q)) hown hK hP 0 rfl rfl 5 (by decide) (hts _ (gG_in mw_220)) rfl dP_at_1 ?_
  obtain ⟨P1, g1, h⟩ := h
  refine kc_vp (As := []) (rest := []) (ci := 6) (q0 := 6) S (c_C_isDone l dC dI ad kc nn σ g1) (cwV 0 hts (gV mw_669 mw_670 mw_671 mw_8 k_C_isDone) rfl rfl rfl (by decide +kernel) ⟨Nat.le_of_ble_eq_true rfl, Nat.le_of_ble_eq_true rfl⟩) hK hN hP rfl rfl rfl hl.1 rfl (Nat.le_of_ble_eq_true rfl) dP_at_4 ⟨Nat.zero_le _, Nat.zero_le _⟩ (fun r1 hp => ?_)
  have h := h r1 hp
  obtain ⟨q1, h⟩ := h
  obtain ⟨ht, hf⟩ := h
  refine ki_if_ne (tgt := 20) hx hb dP_at_7 (by decide) q1 (fun c1 => ?_) (fun c1 => ?_)
  · have h := ht c1
    refine lv_iload_n hx hb dP_at_20 rfl (lv_at hl 1 rfl) ?_
    refine lv_iconst (v := iI 0) hx hb dP_at_21 rfl ?_
    refine lv_aload_n hx hb dP_at_22 rfl (lv_at hl 0 rfl) ?_
    refine k_get (ci := 0) (C := R_P) (T := T_P) (N := 7) hx hb hts (fun w q => gG_in (inG_P w q)) hown hK hP 0 rfl rfl 5 (by decide) (hts _ (gG_in mw_220)) rfl dP_at_23 ?_
    refine kc_vp (As := []) (rest := [.int (iI 0), .int (iI p0)]) (ci := 6) (q0 := 6) S (c_C_count l dC dI ad kc nn σ (P := fun r => (σ 6 7) = r) rfl) (cwV 0 hts (gV mw_658 mw_659 mw_660 mw_8 k_C_count) rfl rfl rfl (by decide +kernel) ⟨Nat.le_of_ble_eq_true rfl, Nat.le_of_ble_eq_true rfl⟩) hK hN hP rfl rfl rfl hl.1 rfl (Nat.le_of_ble_eq_true rfl) dP_at_26 ⟨Nat.zero_le _, Nat.zero_le _⟩ (fun r2 hp => ?_)
    subst hp
    refine lv_iconst (v := iI 1) hx hb dP_at_29 rfl ?_
    refine ki_sub hx hb dP_at_30 ?_
    obtain ⟨P2, g2, h⟩ := h
    refine kc_sp (As := [.int (iI p0), .int (iI 0), .int (iI ((σ 6 7) - 1))]) (rest := []) S (c_P_isWithin l dC dI (tyC kc) (wC ad kc nn) nn σ p0 0 ((σ 6 7) - 1) g2) (cwS 3 hts (gS mw_425 mw_332 mw_1 k_P_isWithin) rfl rfl rfl (by decide +kernel) ⟨Nat.le_of_ble_eq_true rfl, Nat.le_of_ble_eq_true rfl⟩) hK hN hP rfl hl.1 rfl (Nat.le_of_ble_eq_true rfl) dP_at_31 ⟨Nat.zero_le _, Nat.zero_le _⟩ (fun r3 hp => ?_)
    have h := h r3 hp
    obtain ⟨q2, h⟩ := h
    obtain ⟨ht, hf⟩ := h
    refine ki_if_eq (tgt := 46) hx hb dP_at_34 (by decide) q2 (fun c2 => ?_) (fun c2 => ?_)
    · have h := ht c2
      exact k_thr (own := R_P) (cls := exC 0) (text := "no such clipped leaf or what") (names := exN) 0 rfl hx hb hlocks hno htr (hl.1.trans hml.symm) hown (hts _ (gG_in mw_334)) (hts _ (gG_in mw_14)) (hst.2.2.2.2.2.2.use (k := 191) (tx := "no such clipped leaf or what") (List.mem_of_getElem? (i := 14) rfl)) (by decide +kernel) (by decide +kernel) (own_0 hts hst) (hts _ (gG_in mw_335)) dP_at_46 dP_at_49 dP_at_50 dP_at_52 dP_at_55 ⟨Nat.le_of_ble_eq_true rfl, Nat.le_of_ble_eq_true rfl, Nat.le_of_ble_eq_true rfl, Nat.le_of_ble_eq_true rfl⟩ h
    · have h := hf c2
      refine lv_iload_n hx hb dP_at_37 rfl (lv_at hl 2 rfl) ?_
      refine lv_iconst (v := iI 0) hx hb dP_at_38 rfl ?_
      refine lv_iconst (v := iI 1) hx hb dP_at_39 rfl ?_
      obtain ⟨P3, g3, h⟩ := h
      refine kc_sp (As := [.int (iI p1), .int (iI 0), .int (iI 1)]) (rest := []) S (c_P_isWithin l dC dI (tyC kc) (wC ad kc nn) nn σ p1 0 1 g3) (cwS 3 hts (gS mw_425 mw_332 mw_1 k_P_isWithin) rfl rfl rfl (by decide +kernel) ⟨Nat.le_of_ble_eq_true rfl, Nat.le_of_ble_eq_true rfl⟩) hK hN hP rfl hl.1 rfl (Nat.le_of_ble_eq_true rfl) dP_at_40 ⟨Nat.zero_le _, Nat.zero_le _⟩ (fun r4 hp => ?_)
      have h := h r4 hp
      obtain ⟨q3, h⟩ := h
      obtain ⟨ht, hf⟩ := h
      refine ki_if_ne (tgt := 56) hx hb dP_at_43 (by decide) q3 (fun c3 => ?_) (fun c3 => ?_)
      · have h := ht c3
        refine lv_iload_n hx hb dP_at_56 rfl (lv_at hl 2 rfl) ?_
        obtain ⟨q4, h⟩ := h
        obtain ⟨ht, hf⟩ := h
        refine ki_if_ne (tgt := 71) hx hb dP_at_57 (by decide) q4 (fun c4 => ?_) (fun c4 => ?_)
        · have h := ht c4
          refine lv_aload_n hx hb dP_at_71 rfl (lv_at hl 0 rfl) ?_
          refine k_get (ci := 0) (C := R_P) (T := T_P) (N := 7) hx hb hts (fun w q => gG_in (inG_P w q)) hown hK hP 0 rfl rfl 5 (by decide) (hts _ (gG_in mw_220)) rfl dP_at_72 ?_
          refine lv_iload_n hx hb dP_at_75 rfl (lv_at hl 1 rfl) ?_
          obtain ⟨P4, g4, h⟩ := h
          refine kc_vp (As := [.int (iI p0)]) (rest := []) (ci := 6) (q0 := 6) S (c_C_firstStepOf l dC dI ad kc nn σ p0 g4) (cwV 1 hts (gV mw_679 mw_680 mw_681 mw_8 k_C_firstStepOf) rfl rfl rfl (by decide +kernel) ⟨Nat.le_of_ble_eq_true rfl, Nat.le_of_ble_eq_true rfl⟩) hK hN hP rfl rfl rfl hl.1 rfl (Nat.le_of_ble_eq_true rfl) dP_at_76 ⟨Nat.zero_le _, Nat.zero_le _⟩ (fun r5 hp => ?_)
          have h := h r5 hp
          exact False.elim h
        · have h := hf c4
          refine lv_aload_n hx hb dP_at_60 rfl (lv_at hl 0 rfl) ?_
          refine k_get (ci := 0) (C := R_P) (T := T_P) (N := 7) hx hb hts (fun w q => gG_in (inG_P w q)) hown hK hP 0 rfl rfl 5 (by decide) (hts _ (gG_in mw_220)) rfl dP_at_61 ?_
          refine lv_iload_n hx hb dP_at_64 rfl (lv_at hl 1 rfl) ?_
          obtain ⟨P5, g5, h⟩ := h
          refine kc_vp (As := [.int (iI p0)]) (rest := []) (ci := 6) (q0 := 6) S (c_C_leafOf l dC dI ad kc nn σ p0 g5) (cwV 1 hts (gV mw_675 mw_676 mw_677 mw_8 k_C_leafOf) rfl rfl rfl (by decide +kernel) ⟨Nat.le_of_ble_eq_true rfl, Nat.le_of_ble_eq_true rfl⟩) hK hN hP rfl rfl rfl hl.1 rfl (Nat.le_of_ble_eq_true rfl) dP_at_65 ⟨Nat.zero_le _, Nat.zero_le _⟩ (fun r6 hp => ?_)
          have h := h r6 hp
          refine lv_goto (tgt := 79) hx hb dP_at_68 (by decide) ?_
          exact False.elim h
      · have h := hf c3
        exact k_thr (own := R_P) (cls := exC 0) (text := "no such clipped leaf or what") (names := exN) 0 rfl hx hb hlocks hno htr (hl.1.trans hml.symm) hown (hts _ (gG_in mw_334)) (hts _ (gG_in mw_14)) (hst.2.2.2.2.2.2.use (k := 191) (tx := "no such clipped leaf or what") (List.mem_of_getElem? (i := 14) rfl)) (by decide +kernel) (by decide +kernel) (own_0 hts hst) (hts _ (gG_in mw_335)) dP_at_46 dP_at_49 dP_at_50 dP_at_52 dP_at_55 ⟨Nat.le_of_ble_eq_true rfl, Nat.le_of_ble_eq_true rfl, Nat.le_of_ble_eq_true rfl, Nat.le_of_ble_eq_true rfl⟩ h
  · have h := hf c1
    exact k_thr (own := R_P) (cls := exC 2) (text := "nothing is clipped") (names := exN) 2 rfl hx hb hlocks hno htr (hl.1.trans hml.symm) hown (hts _ (gG_in mw_492)) (hts _ (gG_in mw_16)) (hst.2.2.2.2.2.2.use (k := 189) (tx := "nothing is clipped") (List.mem_of_getElem? (i := 13) rfl)) (by decide +kernel) (by decide +kernel) (own_2 hts hst) (hts _ (gG_in mw_493)) dP_at_10 dP_at_13 dP_at_14 dP_at_16 dP_at_19 ⟨Nat.le_of_ble_eq_true rfl, Nat.le_of_ble_eq_true rfl, Nat.le_of_ble_eq_true rfl, Nat.le_of_ble_eq_true rfl⟩ h
abbrev rt_P_clipped : Room := { frames := 6, cells := 1, slots := 6, locals := 82 }
set_option maxHeartbeats 4000000 in
set_option maxRecDepth 100000 in
theorem t_P_clipped (l : Launch) (htr : l.stackTraces = false) (dC : Nat → ClassId) (dI : Nat → Nat → Nat) (ad : Nat → Nat) (kc : Nat → ClassId) (nn : Nat → Nat) (σ : kM) (p0 : Int) {Px : Nat → Prop} (h : wt_P_clipped nn σ p0 Px) : MetT l y_P_clipped ws_P_clipped rt_P_clipped (kPt (dC, dI) vwC (tyC kc) (wC ad kc nn σ) nsG [.ref (ad 0), .int (iI p0)]) (kQt Px exC) 1 6 := by
  refine k_enterT (cc := b_P_clipped) (maxL := 2) (ret := (some .int)) (by decide) rfl (Nat.le_of_ble_eq_true rfl) ?_
  intro p e s m below meth c ls S hlocks hno hP hK hN hst hl
  generalize ([.ref (ad 0), .int (iI p0)] : List Value).toArray = args at S ⊢
  obtain ⟨hx, hb, hml, hown, hts⟩ := id S
  have hl : lv_has ls 2 [(0, .ref (ad 0)), (1, .int (iI p0))] := hl
  unfold wt_P_clipped at h
  refine lv_aload_n hx hb dP_clipped_0 rfl (lv_at hl 0 rfl) ?_
  refine k_get (ci := 0) (C := R_P) (T := T_P) (N := 7) hx hb hts (fun w q => gG_in (inG_P w q)) hown hK hP 0 rfl rfl 5 (by decide) (hts _ (gG_in mw_220)) rfl dP_clipped_1 ?_
  obtain ⟨P1, g1, h⟩ := h
  refine kc_vp (As := []) (rest := []) (ci := 6) (q0 := 6) S (c_C_isDone l dC dI ad kc nn σ g1) (cwV 0 hts (gV mw_669 mw_670 mw_671 mw_8 k_C_isDone) rfl rfl rfl (by decide +kernel) ⟨Nat.le_of_ble_eq_true rfl, Nat.le_of_ble_eq_true rfl⟩) hK hN hP rfl rfl rfl hl.1 rfl (Nat.le_of_ble_eq_true rfl) dP_clipped_4 ⟨Nat.zero_le _, Nat.zero_le _⟩ (fun r1 hp => ?_)
  have h := h r1 hp
  obtain ⟨q1, h⟩ := h
  obtain ⟨ht, hf⟩ := h
  refine ki_if_ne (tgt := 20) hx hb dP_clipped_7 (by decide) q1 (fun c1 => ?_) (fun c1 => ?_)
  · have h := ht c1
    refine lv_iload_n hx hb dP_clipped_20 rfl (lv_at hl 1 rfl) ?_
    refine lv_iconst (v := iI 0) hx hb dP_clipped_21 rfl ?_
    refine lv_iconst (v := iI 2) hx hb dP_clipped_22 rfl ?_
    obtain ⟨P2, g2, h⟩ := h
    refine kc_sp (As := [.int (iI p0), .int (iI 0), .int (iI 2)]) (rest := []) S (c_P_isWithin l dC dI (tyC kc) (wC ad kc nn) nn σ p0 0 2 g2) (cwS 3 hts (gS mw_425 mw_332 mw_1 k_P_isWithin) rfl rfl rfl (by decide +kernel) ⟨Nat.le_of_ble_eq_true rfl, Nat.le_of_ble_eq_true rfl⟩) hK hN hP rfl hl.1 rfl (Nat.le_of_ble_eq_true rfl) dP_clipped_23 ⟨Nat.zero_le _, Nat.zero_le _⟩ (fun r2 hp => ?_)
    have h := h r2 hp
    obtain ⟨q2, h⟩ := h
    obtain ⟨ht, hf⟩ := h
    refine ki_if_ne (tgt := 39) hx hb dP_clipped_26 (by decide) q2 (fun c2 => ?_) (fun c2 => ?_)
    · have h := ht c2
      refine lv_iload_n hx hb dP_clipped_39 rfl (lv_at hl 1 rfl) ?_
      obtain ⟨q3, h⟩ := h
      obtain ⟨ht, hf⟩ := h
      refine ki_if_ne (tgt := 53) hx hb dP_clipped_40 (by decide) q3 (fun c3 => ?_) (fun c3 => ?_)
      · have h := ht c3
        refine lv_iload_n hx hb dP_clipped_53 rfl (lv_at hl 1 rfl) ?_
        refine lv_iconst (v := iI 1) hx hb dP_clipped_54 rfl ?_
        obtain ⟨q4, h⟩ := h
        obtain ⟨ht, hf⟩ := h
        refine ki_icmp_ne (tgt := 68) hx hb dP_clipped_55 (by decide) q4 (by constructor <;> decide) (fun c4 => ?_) (fun c4 => ?_)
        · have h := ht c4
          refine lv_aload_n hx hb dP_clipped_68 rfl (lv_at hl 0 rfl) ?_
          refine k_get (ci := 0) (C := R_P) (T := T_P) (N := 7) hx hb hts (fun w q => gG_in (inG_P w q)) hown hK hP 0 rfl rfl 5 (by decide) (hts _ (gG_in mw_220)) rfl dP_clipped_69 ?_
          refine kc_vp (As := []) (rest := []) (ci := 6) (q0 := 6) S (c_C_steps l dC dI ad kc nn σ (P := fun r => (σ 6 6) = r) rfl) (cwV 0 hts (gV mw_699 mw_700 mw_701 mw_8 k_C_steps) rfl rfl rfl (by decide +kernel) ⟨Nat.le_of_ble_eq_true rfl, Nat.le_of_ble_eq_true rfl⟩) hK hN hP rfl rfl rfl hl.1 rfl (Nat.le_of_ble_eq_true rfl) dP_clipped_72 ⟨Nat.zero_le _, Nat.zero_le _⟩ (fun r3 hp => ?_)
          subst hp
          exact False.elim h
        · have h := hf c4
          refine lv_aload_n hx hb dP_clipped_58 rfl (lv_at hl 0 rfl) ?_
          refine k_get (ci := 0) (C := R_P) (T := T_P) (N := 7) hx hb hts (fun w q => gG_in (inG_P w q)) hown hK hP 0 rfl rfl 5 (by decide) (hts _ (gG_in mw_220)) rfl dP_clipped_59 ?_
          refine kc_vp (As := []) (rest := []) (ci := 6) (q0 := 6) S (c_C_waste l dC dI ad kc nn σ (P := fun r => (σ 6 9) = r) rfl) (cwV 0 hts (gV mw_695 mw_696 mw_697 mw_8 k_C_waste) rfl rfl rfl (by decide +kernel) ⟨Nat.le_of_ble_eq_true rfl, Nat.le_of_ble_eq_true rfl⟩) hK hN hP rfl rfl rfl hl.1 rfl (Nat.le_of_ble_eq_true rfl) dP_clipped_62 ⟨Nat.zero_le _, Nat.zero_le _⟩ (fun r4 hp => ?_)
          subst hp
          refine lv_goto (tgt := 75) hx hb dP_clipped_65 (by decide) ?_
          exact False.elim h
      · have h := hf c3
        refine lv_aload_n hx hb dP_clipped_43 rfl (lv_at hl 0 rfl) ?_
        refine k_get (ci := 0) (C := R_P) (T := T_P) (N := 7) hx hb hts (fun w q => gG_in (inG_P w q)) hown hK hP 0 rfl rfl 5 (by decide) (hts _ (gG_in mw_220)) rfl dP_clipped_44 ?_
        refine kc_vp (As := []) (rest := []) (ci := 6) (q0 := 6) S (c_C_worth l dC dI ad kc nn σ (P := fun r => (σ 6 8) = r) rfl) (cwV 0 hts (gV mw_691 mw_692 mw_693 mw_8 k_C_worth) rfl rfl rfl (by decide +kernel) ⟨Nat.le_of_ble_eq_true rfl, Nat.le_of_ble_eq_true rfl⟩) hK hN hP rfl rfl rfl hl.1 rfl (Nat.le_of_ble_eq_true rfl) dP_clipped_47 ⟨Nat.zero_le _, Nat.zero_le _⟩ (fun r5 hp => ?_)
        subst hp
        refine lv_goto (tgt := 75) hx hb dP_clipped_50 (by decide) ?_
        exact False.elim h
    · have h := hf c2
      exact k_thr (own := R_P) (cls := exC 0) (text := "no such what") (names := exN) 0 rfl hx hb hlocks hno htr (hl.1.trans hml.symm) hown (hts _ (gG_in mw_334)) (hts _ (gG_in mw_14)) (hst.2.2.2.2.2.2.use (k := 199) (tx := "no such what") (List.mem_of_getElem? (i := 15) rfl)) (by decide +kernel) (by decide +kernel) (own_0 hts hst) (hts _ (gG_in mw_335)) dP_clipped_29 dP_clipped_32 dP_clipped_33 dP_clipped_35 dP_clipped_38 ⟨Nat.le_of_ble_eq_true rfl, Nat.le_of_ble_eq_true rfl, Nat.le_of_ble_eq_true rfl, Nat.le_of_ble_eq_true rfl⟩ h
  · have h := hf c1
    exact k_thr (own := R_P) (cls := exC 2) (text := "nothing is clipped") (names := exN) 2 rfl hx hb hlocks hno htr (hl.1.trans hml.symm) hown (hts _ (gG_in mw_492)) (hts _ (gG_in mw_16)) (hst.2.2.2.2.2.2.use (k := 189) (tx := "nothing is clipped") (List.mem_of_getElem? (i := 13) rfl)) (by decide +kernel) (by decide +kernel) (own_2 hts hst) (hts _ (gG_in mw_493)) dP_clipped_10 dP_clipped_13 dP_clipped_14 dP_clipped_16 dP_clipped_19 ⟨Nat.le_of_ble_eq_true rfl, Nat.le_of_ble_eq_true rfl, Nat.le_of_ble_eq_true rfl, Nat.le_of_ble_eq_true rfl⟩ h
abbrev rt_P_shrink : Room := { frames := 6, cells := 1, slots := 6, locals := 82 }
set_option maxHeartbeats 4000000 in
set_option maxRecDepth 100000 in
theorem t_P_shrink (l : Launch) (htr : l.stackTraces = false) (dC : Nat → ClassId) (dI : Nat → Nat → Nat) (ad : Nat → Nat) (kc : Nat → ClassId) (nn : Nat → Nat) (σ : kM) (p0 : Int) (p1 : Int) (p2 : Int) {Px : Nat → Prop} (h : wt_P_shrink nn σ p0 p1 p2 Px) : MetT l y_P_shrink ws_P_shrink rt_P_shrink (kPt (dC, dI) vwC (tyC kc) (wC ad kc nn σ) nsG [.ref (ad 0), .int (iI p0), .int (iI p1), .int (iI p2)]) (kQt Px exC) 1 6 := by
  refine k_enterT (cc := b_P_shrink) (maxL := 4) (ret := (some .int)) (by decide) rfl (Nat.le_of_ble_eq_true rfl) ?_
  intro p e s m below meth c ls S hlocks hno hP hK hN hst hl
  generalize ([.ref (ad 0), .int (iI p0), .int (iI p1), .int (iI p2)] : List Value).toArray = args at S ⊢
  obtain ⟨hx, hb, hml, hown, hts⟩ := id S
  have hl : lv_has ls 4 [(0, .ref (ad 0)), (1, .int (iI p0)), (2, .int (iI p1)), (3, .int (iI p2))] := hl
  unfold wt_P_shrink at h
  refine lv_aload_n hx hb dP_shrink_0 rfl (lv_at hl 0 rfl) ?_
  refine k_get (ci := 0) (C := R_P) (T := T_P) (N := 7) hx hb hts (fun w q => gG_in (inG_P w q)) hown hK hP 0 rfl rfl 4 (by decide) (hts _ (gG_in mw_219)) rfl dP_shrink_1 ?_
  refine lv_iload_n hx hb dP_shrink_4 rfl (lv_at hl 1 rfl) ?_
  obtain ⟨P1, g1, h⟩ := h
  refine kc_vp (As := [.int (iI p0)]) (rest := []) (ci := 5) (q0 := 5) S (c_L_has l dC dI ad kc nn σ p0 g1) (cwV 1 hts (gV mw_583 mw_584 mw_585 mw_7 k_L_has) rfl rfl rfl (by decide +kernel) ⟨Nat.le_of_ble_eq_true rfl, Nat.le_of_ble_eq_true rfl⟩) hK hN hP rfl rfl rfl hl.1 rfl (Nat.le_of_ble_eq_true rfl) dP_shrink_5 ⟨Nat.zero_le _, Nat.zero_le _⟩ (fun r1 hp => ?_)
  have h := h r1 hp
  obtain ⟨q1, h⟩ := h
  obtain ⟨ht, hf⟩ := h
  refine ki_if_ne (tgt := 21) hx hb dP_shrink_8 (by decide) q1 (fun c1 => ?_) (fun c1 => ?_)
  · have h := ht c1
    refine lv_iload_n hx hb dP_shrink_21 rfl (lv_at hl 3 rfl) ?_
    refine lv_iconst (v := iI 1) hx hb dP_shrink_22 rfl ?_
    refine lv_sipush (v := iI 1000) hx hb dP_shrink_23 (by decide) ?_
    obtain ⟨P2, g2, h⟩ := h
    refine kc_sp (As := [.int (iI p2), .int (iI 1), .int (iI 1000)]) (rest := []) S (c_P_isWithin l dC dI (tyC kc) (wC ad kc nn) nn σ p2 1 1000 g2) (cwS 3 hts (gS mw_425 mw_332 mw_1 k_P_isWithin) rfl rfl rfl (by decide +kernel) ⟨Nat.le_of_ble_eq_true rfl, Nat.le_of_ble_eq_true rfl⟩) hK hN hP rfl hl.1 rfl (Nat.le_of_ble_eq_true rfl) dP_shrink_26 ⟨Nat.zero_le _, Nat.zero_le _⟩ (fun r2 hp => ?_)
    have h := h r2 hp
    obtain ⟨q2, h⟩ := h
    obtain ⟨ht, hf⟩ := h
    refine ki_if_eq (tgt := 41) hx hb dP_shrink_29 (by decide) q2 (fun c2 => ?_) (fun c2 => ?_)
    · have h := ht c2
      exact k_thr (own := R_P) (cls := exC 1) (text := "below is 1 .. 1000, above 0 .. below") (names := exN) 1 rfl hx hb hlocks hno htr (hl.1.trans hml.symm) hown (hts _ (gG_in mw_455)) (hts _ (gG_in mw_15)) (hst.2.2.2.2.2.2.use (k := 212) (tx := "below is 1 .. 1000, above 0 .. below") (List.mem_of_getElem? (i := 17) rfl)) (by decide +kernel) (by decide +kernel) (own_1 hts hst) (hts _ (gG_in mw_456)) dP_shrink_41 dP_shrink_44 dP_shrink_45 dP_shrink_47 dP_shrink_50 ⟨Nat.le_of_ble_eq_true rfl, Nat.le_of_ble_eq_true rfl, Nat.le_of_ble_eq_true rfl, Nat.le_of_ble_eq_true rfl⟩ h
    · have h := hf c2
      refine lv_iload_n hx hb dP_shrink_32 rfl (lv_at hl 2 rfl) ?_
      refine lv_iconst (v := iI 0) hx hb dP_shrink_33 rfl ?_
      refine lv_iload_n hx hb dP_shrink_34 rfl (lv_at hl 3 rfl) ?_
      obtain ⟨P3, g3, h⟩ := h
      refine kc_sp (As := [.int (iI p1), .int (iI 0), .int (iI p2)]) (rest := []) S (c_P_isWithin l dC dI (tyC kc) (wC ad kc nn) nn σ p1 0 p2 g3) (cwS 3 hts (gS mw_425 mw_332 mw_1 k_P_isWithin) rfl rfl rfl (by decide +kernel) ⟨Nat.le_of_ble_eq_true rfl, Nat.le_of_ble_eq_true rfl⟩) hK hN hP rfl hl.1 rfl (Nat.le_of_ble_eq_true rfl) dP_shrink_35 ⟨Nat.zero_le _, Nat.zero_le _⟩ (fun r3 hp => ?_)
      have h := h r3 hp
      obtain ⟨q3, h⟩ := h
      obtain ⟨ht, hf⟩ := h
      refine ki_if_ne (tgt := 51) hx hb dP_shrink_38 (by decide) q3 (fun c3 => ?_) (fun c3 => ?_)
      · have h := ht c3
        refine lv_aload_n hx hb dP_shrink_51 rfl (lv_at hl 0 rfl) ?_
        refine k_get (ci := 0) (C := R_P) (T := T_P) (N := 7) hx hb hts (fun w q => gG_in (inG_P w q)) hown hK hP 0 rfl rfl 4 (by decide) (hts _ (gG_in mw_219)) rfl dP_shrink_52 ?_
        refine lv_iload_n hx hb dP_shrink_55 rfl (lv_at hl 1 rfl) ?_
        obtain ⟨P4, g4, h⟩ := h
        refine kc_vp (As := [.int (iI p0)]) (rest := []) (ci := 5) (q0 := 5) S (c_L_width l dC dI ad kc nn σ p0 g4) (cwV 1 hts (gV mw_712 mw_642 mw_643 mw_7 k_L_width) rfl rfl rfl (by decide +kernel) ⟨Nat.le_of_ble_eq_true rfl, Nat.le_of_ble_eq_true rfl⟩) hK hN hP rfl rfl rfl hl.1 rfl (Nat.le_of_ble_eq_true rfl) dP_shrink_56 ⟨Nat.zero_le _, Nat.zero_le _⟩ (fun r4 hp => ?_)
        have h := h r4 hp
        refine lv_iload_n hx hb dP_shrink_59 rfl (lv_at hl 2 rfl) ?_
        refine ki_mul hx hb dP_shrink_60 ?_
        refine lv_iload_n hx hb dP_shrink_61 rfl (lv_at hl 3 rfl) ?_
        obtain ⟨q4, h⟩ := h
        refine ki_div hx hb dP_shrink_62 q4 ?_
        exact False.elim h
      · have h := hf c3
        exact k_thr (own := R_P) (cls := exC 1) (text := "below is 1 .. 1000, above 0 .. below") (names := exN) 1 rfl hx hb hlocks hno htr (hl.1.trans hml.symm) hown (hts _ (gG_in mw_455)) (hts _ (gG_in mw_15)) (hst.2.2.2.2.2.2.use (k := 212) (tx := "below is 1 .. 1000, above 0 .. below") (List.mem_of_getElem? (i := 17) rfl)) (by decide +kernel) (by decide +kernel) (own_1 hts hst) (hts _ (gG_in mw_456)) dP_shrink_41 dP_shrink_44 dP_shrink_45 dP_shrink_47 dP_shrink_50 ⟨Nat.le_of_ble_eq_true rfl, Nat.le_of_ble_eq_true rfl, Nat.le_of_ble_eq_true rfl, Nat.le_of_ble_eq_true rfl⟩ h
  · have h := hf c1
    exact k_thr (own := R_P) (cls := exC 0) (text := "no such leaf") (names := exN) 0 rfl hx hb hlocks hno htr (hl.1.trans hml.symm) hown (hts _ (gG_in mw_334)) (hts _ (gG_in mw_14)) (hst.2.2.2.2.2.2.use (k := 210) (tx := "no such leaf") (List.mem_of_getElem? (i := 16) rfl)) (by decide +kernel) (by decide +kernel) (own_0 hts hst) (hts _ (gG_in mw_335)) dP_shrink_11 dP_shrink_14 dP_shrink_15 dP_shrink_17 dP_shrink_20 ⟨Nat.le_of_ble_eq_true rfl, Nat.le_of_ble_eq_true rfl, Nat.le_of_ble_eq_true rfl, Nat.le_of_ble_eq_true rfl⟩ h
abbrev rt_P_row : Room := { frames := 6, cells := 1, slots := 6, locals := 82 }
set_option maxHeartbeats 4000000 in
set_option maxRecDepth 100000 in
theorem t_P_row (l : Launch) (htr : l.stackTraces = false) (dC : Nat → ClassId) (dI : Nat → Nat → Nat) (ad : Nat → Nat) (kc : Nat → ClassId) (nn : Nat → Nat) (σ : kM) (p0 : Int) (p1 : Int) {Px : Nat → Prop} (h : wt_P_row nn σ p0 p1 Px) : MetT l y_P_row ws_P_row rt_P_row (kPt (dC, dI) vwC (tyC kc) (wC ad kc nn σ) nsG [.ref (ad 0), .int (iI p0), .int (iI p1)]) (kQt Px exC) 1 6 := by
  refine k_enterT (cc := b_P_row) (maxL := 3) (ret := (some .boolean)) (by decide) rfl (Nat.le_of_ble_eq_true rfl) ?_
  intro p e s m below meth c ls S hlocks hno hP hK hN hst hl
  generalize ([.ref (ad 0), .int (iI p0), .int (iI p1)] : List Value).toArray = args at S ⊢
  obtain ⟨hx, hb, hml, hown, hts⟩ := id S
  have hl : lv_has ls 3 [(0, .ref (ad 0)), (1, .int (iI p0)), (2, .int (iI p1))] := hl
  unfold wt_P_row at h
  refine lv_iload_n hx hb dP_row_0 rfl (lv_at hl 1 rfl) ?_
  refine lv_iconst (v := iI 0) hx hb dP_row_1 rfl ?_
  refine lv_sipush (v := iI 1000) hx hb dP_row_2 (by decide) ?_
  obtain ⟨P1, g1, h⟩ := h
  refine kc_sp (As := [.int (iI p0), .int (iI 0), .int (iI 1000)]) (rest := []) S (c_P_isWithin l dC dI (tyC kc) (wC ad kc nn) nn σ p0 0 1000 g1) (cwS 3 hts (gS mw_425 mw_332 mw_1 k_P_isWithin) rfl rfl rfl (by decide +kernel) ⟨Nat.le_of_ble_eq_true rfl, Nat.le_of_ble_eq_true rfl⟩) hK hN hP rfl hl.1 rfl (Nat.le_of_ble_eq_true rfl) dP_row_5 ⟨Nat.zero_le _, Nat.zero_le _⟩ (fun r1 hp => ?_)
  have h := h r1 hp
  obtain ⟨q1, h⟩ := h
  obtain ⟨ht, hf⟩ := h
  refine ki_if_eq (tgt := 33) hx hb dP_row_8 (by decide) q1 (fun c1 => ?_) (fun c1 => ?_)
  · have h := ht c1
    exact k_thr (own := R_P) (cls := exC 1) (text := "radius is 0 .. 1000, below the one before; angle -100 .. 100") (names := exN) 1 rfl hx hb hlocks hno htr (hl.1.trans hml.symm) hown (hts _ (gG_in mw_455)) (hts _ (gG_in mw_15)) (hst.2.2.2.2.2.2.use (k := 220) (tx := "radius is 0 .. 1000, below the one before; angle -100 .. 100") (List.mem_of_getElem? (i := 18) rfl)) (by decide +kernel) (by decide +kernel) (own_1 hts hst) (hts _ (gG_in mw_456)) dP_row_33 dP_row_36 dP_row_37 dP_row_39 dP_row_42 ⟨Nat.le_of_ble_eq_true rfl, Nat.le_of_ble_eq_true rfl, Nat.le_of_ble_eq_true rfl, Nat.le_of_ble_eq_true rfl⟩ h
  · have h := hf c1
    refine lv_aload_n hx hb dP_row_11 rfl (lv_at hl 0 rfl) ?_
    refine k_get (ci := 0) (C := R_P) (T := T_P) (N := 7) hx hb hts (fun w q => gG_in (inG_P w q)) hown hK hP 0 rfl rfl 6 (by decide) (hts _ (gG_in mw_221)) rfl dP_row_12 ?_
    refine lv_iload_n hx hb dP_row_15 rfl (lv_at hl 1 rfl) ?_
    obtain ⟨P2, g2, h⟩ := h
    refine kc_vp (As := [.int (iI p0)]) (rest := []) (ci := 7) (q0 := 7) S (c_K_isBelowLast l dC dI ad kc nn σ p0 g2) (cwV 1 hts (gV mw_720 mw_721 mw_722 mw_9 k_K_isBelowLast) rfl rfl rfl (by decide +kernel) ⟨Nat.le_of_ble_eq_true rfl, Nat.le_of_ble_eq_true rfl⟩) hK hN hP rfl rfl rfl hl.1 rfl (Nat.le_of_ble_eq_true rfl) dP_row_16 ⟨Nat.zero_le _, Nat.zero_le _⟩ (fun r2 hp => ?_)
    have h := h r2 hp
    obtain ⟨q2, h⟩ := h
    obtain ⟨ht, hf⟩ := h
    refine ki_if_eq (tgt := 33) hx hb dP_row_19 (by decide) q2 (fun c2 => ?_) (fun c2 => ?_)
    · have h := ht c2
      exact k_thr (own := R_P) (cls := exC 1) (text := "radius is 0 .. 1000, below the one before; angle -100 .. 100") (names := exN) 1 rfl hx hb hlocks hno htr (hl.1.trans hml.symm) hown (hts _ (gG_in mw_455)) (hts _ (gG_in mw_15)) (hst.2.2.2.2.2.2.use (k := 220) (tx := "radius is 0 .. 1000, below the one before; angle -100 .. 100") (List.mem_of_getElem? (i := 18) rfl)) (by decide +kernel) (by decide +kernel) (own_1 hts hst) (hts _ (gG_in mw_456)) dP_row_33 dP_row_36 dP_row_37 dP_row_39 dP_row_42 ⟨Nat.le_of_ble_eq_true rfl, Nat.le_of_ble_eq_true rfl, Nat.le_of_ble_eq_true rfl, Nat.le_of_ble_eq_true rfl⟩ h
    · have h := hf c2
      refine lv_iload_n hx hb dP_row_22 rfl (lv_at hl 2 rfl) ?_
      refine lv_bipush (v := iI (-100)) hx hb dP_row_23 (by decide) ?_
      refine lv_bipush (v := iI 100) hx hb dP_row_25 (by decide) ?_
      obtain ⟨P3, g3, h⟩ := h
      refine kc_sp (As := [.int (iI p1), .int (iI (-100)), .int (iI 100)]) (rest := []) S (c_P_isWithin l dC dI (tyC kc) (wC ad kc nn) nn σ p1 (-100) 100 g3) (cwS 3 hts (gS mw_425 mw_332 mw_1 k_P_isWithin) rfl rfl rfl (by decide +kernel) ⟨Nat.le_of_ble_eq_true rfl, Nat.le_of_ble_eq_true rfl⟩) hK hN hP rfl hl.1 rfl (Nat.le_of_ble_eq_true rfl) dP_row_27 ⟨Nat.zero_le _, Nat.zero_le _⟩ (fun r3 hp => ?_)
      have h := h r3 hp
      obtain ⟨q3, h⟩ := h
      obtain ⟨ht, hf⟩ := h
      refine ki_if_ne (tgt := 43) hx hb dP_row_30 (by decide) q3 (fun c3 => ?_) (fun c3 => ?_)
      · have h := ht c3
        refine lv_aload_n hx hb dP_row_43 rfl (lv_at hl 0 rfl) ?_
        refine k_get (ci := 0) (C := R_P) (T := T_P) (N := 7) hx hb hts (fun w q => gG_in (inG_P w q)) hown hK hP 0 rfl rfl 6 (by decide) (hts _ (gG_in mw_221)) rfl dP_row_44 ?_
        refine lv_iload_n hx hb dP_row_47 rfl (lv_at hl 1 rfl) ?_
        refine lv_iload_n hx hb dP_row_48 rfl (lv_at hl 2 rfl) ?_
        exact False.elim h
      · have h := hf c3
        exact k_thr (own := R_P) (cls := exC 1) (text := "radius is 0 .. 1000, below the one before; angle -100 .. 100") (names := exN) 1 rfl hx hb hlocks hno htr (hl.1.trans hml.symm) hown (hts _ (gG_in mw_455)) (hts _ (gG_in mw_15)) (hst.2.2.2.2.2.2.use (k := 220) (tx := "radius is 0 .. 1000, below the one before; angle -100 .. 100") (List.mem_of_getElem? (i := 18) rfl)) (by decide +kernel) (by decide +kernel) (own_1 hts hst) (hts _ (gG_in mw_456)) dP_row_33 dP_row_36 dP_row_37 dP_row_39 dP_row_42 ⟨Nat.le_of_ble_eq_true rfl, Nat.le_of_ble_eq_true rfl, Nat.le_of_ble_eq_true rfl, Nat.le_of_ble_eq_true rfl⟩ h
abbrev rt_P_knife : Room := { frames := 6, cells := 1, slots := 6, locals := 82 }
set_option maxHeartbeats 4000000 in
set_option maxRecDepth 100000 in
theorem t_P_knife (l : Launch) (htr : l.stackTraces = false) (dC : Nat → ClassId) (dI : Nat → Nat → Nat) (ad : Nat → Nat) (kc : Nat → ClassId) (nn : Nat → Nat) (σ : kM) (p0 : Int) {Px : Nat → Prop} (h : wt_P_knife nn σ p0 Px) : MetT l y_P_knife ws_P_knife rt_P_knife (kPt (dC, dI) vwC (tyC kc) (wC ad kc nn σ) nsG [.ref (ad 0), .int (iI p0)]) (kQt Px exC) 1 6 := by
  refine k_enterT (cc := b_P_knife) (maxL := 2) (ret := (some .int)) (by decide) rfl (Nat.le_of_ble_eq_true rfl) ?_
  intro p e s m below meth c ls S hlocks hno hP hK hN hst hl
  generalize ([.ref (ad 0), .int (iI p0)] : List Value).toArray = args at S ⊢
  obtain ⟨hx, hb, hml, hown, hts⟩ := id S
  have hl : lv_has ls 2 [(0, .ref (ad 0)), (1, .int (iI p0))] := hl
  unfold wt_P_knife at h
  refine lv_iload_n hx hb dP_knife_0 rfl (lv_at hl 1 rfl) ?_
  refine lv_iconst (v := iI 0) hx hb dP_knife_1 rfl ?_
  refine lv_sipush (v := iI 1000) hx hb dP_knife_2 (by decide) ?_
  obtain ⟨P1, g1, h⟩ := h
  refine kc_sp (As := [.int (iI p0), .int (iI 0), .int (iI 1000)]) (rest := []) S (c_P_isWithin l dC dI (tyC kc) (wC ad kc nn) nn σ p0 0 1000 g1) (cwS 3 hts (gS mw_425 mw_332 mw_1 k_P_isWithin) rfl rfl rfl (by decide +kernel) ⟨Nat.le_of_ble_eq_true rfl, Nat.le_of_ble_eq_true rfl⟩) hK hN hP rfl hl.1 rfl (Nat.le_of_ble_eq_true rfl) dP_knife_5 ⟨Nat.zero_le _, Nat.zero_le _⟩ (fun r1 hp => ?_)
  have h := h r1 hp
  obtain ⟨q1, h⟩ := h
  obtain ⟨ht, hf⟩ := h
  refine ki_if_ne (tgt := 21) hx hb dP_knife_8 (by decide) q1 (fun c1 => ?_) (fun c1 => ?_)
  · have h := ht c1
    refine lv_aload_n hx hb dP_knife_21 rfl (lv_at hl 0 rfl) ?_
    refine k_get (ci := 0) (C := R_P) (T := T_P) (N := 7) hx hb hts (fun w q => gG_in (inG_P w q)) hown hK hP 0 rfl rfl 6 (by decide) (hts _ (gG_in mw_221)) rfl dP_knife_22 ?_
    refine lv_iload_n hx hb dP_knife_25 rfl (lv_at hl 1 rfl) ?_
    obtain ⟨P2, g2, h⟩ := h
    refine kc_vp (As := [.int (iI p0)]) (rest := []) (ci := 7) (q0 := 7) S (c_K_answerAt l dC dI ad kc nn σ p0 g2) (cwV 1 hts (gV mw_737 mw_738 mw_739 mw_9 k_K_answerAt) rfl rfl rfl (by decide +kernel) ⟨Nat.le_of_ble_eq_true rfl, Nat.le_of_ble_eq_true rfl⟩) hK hN hP rfl rfl rfl hl.1 rfl (Nat.le_of_ble_eq_true rfl) dP_knife_26 ⟨Nat.zero_le _, Nat.zero_le _⟩ (fun r2 hp => ?_)
    have h := h r2 hp
    exact False.elim h
  · have h := hf c1
    exact k_thr (own := R_P) (cls := exC 1) (text := "radius is 0 .. 1000") (names := exN) 1 rfl hx hb hlocks hno htr (hl.1.trans hml.symm) hown (hts _ (gG_in mw_455)) (hts _ (gG_in mw_15)) (hst.2.2.2.2.2.2.use (k := 224) (tx := "radius is 0 .. 1000") (List.mem_of_getElem? (i := 19) rfl)) (by decide +kernel) (by decide +kernel) (own_1 hts hst) (hts _ (gG_in mw_456)) dP_knife_11 dP_knife_14 dP_knife_15 dP_knife_17 dP_knife_20 ⟨Nat.le_of_ble_eq_true rfl, Nat.le_of_ble_eq_true rfl, Nat.le_of_ble_eq_true rfl, Nat.le_of_ble_eq_true rfl⟩ h
