abbrev rm_M_room : Room := { frames := 3, cells := 0, slots := 0, locals := 79 }
set_option maxHeartbeats 4000000 in
set_option maxRecDepth 100000 in
theorem c_M_room (l : Launch) (dC : Nat → ClassId) (dI : Nat → Nat → Nat) (ad : Nat → Nat) (kc : Nat → ClassId) (nn : Nat → Nat) (σ : kM) {P : Int → kM → Prop} (h : wp_M_room nn σ P) : kMi l y_M_room ws_M_room rm_M_room (dC, dI) vwC (tyC kc) (wC ad kc nn) nsG σ [.ref (ad 27)] P := by
  intro sz
  refine k_enter (cc := b_M_room) (maxL := 1) (ret := (some .int)) (by decide) rfl (Nat.le_of_ble_eq_true rfl) ?_
  intro p e s m below meth c ls S hr hlocks hsz hA hW hK hN hl
  generalize va_A ((wC ad kc nn) σ) sz = A at hA hW ⊢
  generalize ([.ref (ad 27)] : List Value).toArray = args at S ⊢
  obtain ⟨hx, hb, hml, hown, hts⟩ := id S
  have hl : lv_has ls 1 [(0, .ref (ad 27))] := hl
  unfold wp_M_room at h
  refine lv_aload_n hx hb dM_room_0 rfl (lv_at hl 0 rfl) ?_
  refine lv_iconst (v := iI 0) hx hb dM_room_1 rfl ?_
  obtain ⟨s1, es1⟩ : ∃ z : kM, z = va_up σ 27 (va_up (σ 27) 0 0) := ⟨_, rfl⟩
  refine k_put (ty := .int) (ws' := wC ad kc nn s1) (ci := 8) (C := R_M) (T := T_M) (N := 32) hx hb hts (fun w q => gG_in (inG_M w q)) ty_M tk_M nm_M hown hK hW 27 rfl rfl 0 (by decide) (hts _ (gG_in mw_747)) rfl (by decide +kernel) rfl rfl (Nat.le_of_ble_eq_true rfl) (by rw [es1]; exact wC_p27_0 ..) dM_room_2 (fun H locs hW => ?_)
  have h := h s1 es1
  refine lv_aload_n hx hb dM_room_5 rfl (lv_at hl 0 rfl) ?_
  obtain ⟨P1, g1, h⟩ := h
  refine kc_vv (As := []) (rest := []) (ci := 8) (q0 := 27) S (c_M_know l dC dI ad kc nn s1 g1) (cwV 0 hts (gV mw_859 mw_861 ps_17 mw_10 k_M_know) rfl rfl rfl (by decide +kernel) ⟨Nat.le_of_ble_eq_true rfl, Nat.le_of_ble_eq_true rfl⟩) hK hN hA hW (fun _ => rfl) rfl rfl rfl hl.1 rfl (Nat.le_of_ble_eq_true rfl) dM_room_6 ⟨Nat.zero_le _, Nat.zero_le _⟩ (fun s2 H locs hp hW => ?_)
  have h := h s2 hp
  refine lv_aload_n hx hb dM_room_9 rfl (lv_at hl 0 rfl) ?_
  refine k_get (ci := 8) (C := R_M) (T := T_M) (N := 32) hx hb hts (fun w q => gG_in (inG_M w q)) hown hK hW.1 27 rfl rfl 7 (by decide) (hts _ (gG_in mw_754)) rfl dM_room_10 ?_
  exact k_iret hx hb hr hlocks hW dM_room_13 h
abbrev rm_M_axis : Room := { frames := 3, cells := 0, slots := 0, locals := 79 }
set_option maxHeartbeats 4000000 in
set_option maxRecDepth 100000 in
theorem c_M_axis (l : Launch) (dC : Nat → ClassId) (dI : Nat → Nat → Nat) (ad : Nat → Nat) (kc : Nat → ClassId) (nn : Nat → Nat) (σ : kM) (p0 : Int) {P : Int → kM → Prop} (h : wp_M_axis nn σ p0 P) : kMi l y_M_axis ws_M_axis rm_M_axis (dC, dI) vwC (tyC kc) (wC ad kc nn) nsG σ [.ref (ad 27), .int (iI p0)] P := by
  intro sz
  refine k_enter (cc := b_M_axis) (maxL := 2) (ret := (some .int)) (by decide) rfl (Nat.le_of_ble_eq_true rfl) ?_
  intro p e s m below meth c ls S hr hlocks hsz hA hW hK hN hl
  generalize va_A ((wC ad kc nn) σ) sz = A at hA hW ⊢
  generalize ([.ref (ad 27), .int (iI p0)] : List Value).toArray = args at S ⊢
  obtain ⟨hx, hb, hml, hown, hts⟩ := id S
  have hl : lv_has ls 2 [(0, .ref (ad 27)), (1, .int (iI p0))] := hl
  unfold wp_M_axis at h
  refine lv_aload_n hx hb dM_axis_0 rfl (lv_at hl 0 rfl) ?_
  refine lv_iload_n hx hb dM_axis_1 rfl (lv_at hl 1 rfl) ?_
  refine lv_iconst (v := iI 0) hx hb dM_axis_2 rfl ?_
  refine lv_iconst (v := iI 3) hx hb dM_axis_3 rfl ?_
  obtain ⟨P1, g1, h⟩ := h
  refine kc_sp (As := [.int (iI p0), .int (iI 0), .int (iI 3)]) (rest := [.ref (ad 27)]) S (c_M_isIn l dC dI (tyC kc) (wC ad kc nn) nn σ p0 0 3 g1) (cwS 3 hts (gS mw_852 mw_853 mw_10 k_M_isIn) rfl rfl rfl (by decide +kernel) ⟨Nat.le_of_ble_eq_true rfl, Nat.le_of_ble_eq_true rfl⟩) hK hN hW.1 rfl hl.1 rfl (Nat.le_of_ble_eq_true rfl) dM_axis_4 ⟨Nat.zero_le _, Nat.zero_le _⟩ (fun r1 hp => ?_)
  have h := h r1 hp
  obtain ⟨q1, h⟩ := h
  have jW1 : ∀ (v1 : Int) (H : Heap) (locs : List Loc) (ls : Array Slot), kW (dC, dI) vwC A s.heap (wC ad kc nn σ) H locs → lv_has ls 2 [(0, .ref (ad 27)), (1, .int (iI p0))] → jn_M_axis_15 nn p0 σ P v1 → W p l e (headSpec ws_M_axis rm_M_axis).room s m args below meth c H locs 0 0 (MQ below (kQi (dC, dI) vwC (wC ad kc nn) P A) args s 0 0 A) (F0 m 15 ls [.int (iI v1), .ref (ad 27)]) := by
    intro v1 H locs ls hW hl h
    unfold jn_M_axis_15 at h
    obtain ⟨s1, es1⟩ : ∃ z : kM, z = va_up σ 27 (va_up (σ 27) 0 v1) := ⟨_, rfl⟩
    refine k_put (ty := .int) (ws' := wC ad kc nn s1) (ci := 8) (C := R_M) (T := T_M) (N := 32) hx hb hts (fun w q => gG_in (inG_M w q)) ty_M tk_M nm_M hown hK hW 27 rfl rfl 0 (by decide) (hts _ (gG_in mw_747)) rfl (by decide +kernel) rfl rfl (Nat.le_of_ble_eq_true rfl) (by rw [es1]; exact wC_p27_0 ..) dM_axis_15 (fun H locs hW => ?_)
    have h := h s1 es1
    refine lv_aload_n hx hb dM_axis_18 rfl (lv_at hl 0 rfl) ?_
    refine k_get (ci := 8) (C := R_M) (T := T_M) (N := 32) hx hb hts (fun w q => gG_in (inG_M w q)) hown hK hW.1 27 rfl rfl 0 (by decide) (hts _ (gG_in mw_747)) rfl dM_axis_19 ?_
    obtain ⟨q2, h⟩ := h
    obtain ⟨ht, hf⟩ := h
    refine ki_if_le (tgt := 27) hx hb dM_axis_22 (by decide) q2 (fun c1 => ?_) (fun c1 => ?_)
    · have h := ht c1
      refine lv_aload_n hx hb dM_axis_27 rfl (lv_at hl 0 rfl) ?_
      obtain ⟨P2, g2, h⟩ := h
      refine kc_vv (As := []) (rest := []) (ci := 8) (q0 := 27) S (c_M_know l dC dI ad kc nn s1 g2) (cwV 0 hts (gV mw_859 mw_861 ps_17 mw_10 k_M_know) rfl rfl rfl (by decide +kernel) ⟨Nat.le_of_ble_eq_true rfl, Nat.le_of_ble_eq_true rfl⟩) hK hN hA hW (fun _ => rfl) rfl rfl rfl hl.1 rfl (Nat.le_of_ble_eq_true rfl) dM_axis_28 ⟨Nat.zero_le _, Nat.zero_le _⟩ (fun s2 H locs hp hW => ?_)
      have h := h s2 hp
      refine lv_aload_n hx hb dM_axis_31 rfl (lv_at hl 0 rfl) ?_
      refine k_get (ci := 8) (C := R_M) (T := T_M) (N := 32) hx hb hts (fun w q => gG_in (inG_M w q)) hown hK hW.1 27 rfl rfl 8 (by decide) (hts _ (gG_in mw_755)) rfl dM_axis_32 ?_
      refine lv_iload_n hx hb dM_axis_35 rfl (lv_at hl 1 rfl) ?_
      obtain ⟨q3, h⟩ := h
      refine k_iald hx hb hK hW.1 30 21 (s2 30) rfl rfl q3 dM_axis_36 ?_
      exact k_iret hx hb hr hlocks hW dM_axis_37 h
    · have h := hf c1
      refine lv_iconst (v := iI 0) hx hb dM_axis_25 rfl ?_
      exact k_iret hx hb hr hlocks hW dM_axis_26 h
  obtain ⟨ht, hf⟩ := h
  refine ki_if_eq (tgt := 14) hx hb dM_axis_7 (by decide) q1 (fun c2 => ?_) (fun c2 => ?_)
  · have h := ht c2
    refine lv_iconst (v := iI 1) hx hb dM_axis_14 rfl ?_
    exact jW1 1 _ _ ls hW (lv_sub hl [0, 1] rfl) h
  · have h := hf c2
    refine lv_iconst (v := iI 0) hx hb dM_axis_10 rfl ?_
    refine lv_goto (tgt := 15) hx hb dM_axis_11 (by decide) ?_
    exact jW1 0 _ _ ls hW (lv_sub hl [0, 1] rfl) h
abbrev rm_M_radius : Room := { frames := 3, cells := 0, slots := 0, locals := 79 }
set_option maxHeartbeats 4000000 in
set_option maxRecDepth 100000 in
theorem c_M_radius (l : Launch) (dC : Nat → ClassId) (dI : Nat → Nat → Nat) (ad : Nat → Nat) (kc : Nat → ClassId) (nn : Nat → Nat) (σ : kM) {P : Int → kM → Prop} (h : wp_M_radius nn σ P) : kMi l y_M_radius ws_M_radius rm_M_radius (dC, dI) vwC (tyC kc) (wC ad kc nn) nsG σ [.ref (ad 27)] P := by
  intro sz
  refine k_enter (cc := b_M_radius) (maxL := 2) (ret := (some .int)) (by decide) rfl (Nat.le_of_ble_eq_true rfl) ?_
  intro p e s m below meth c ls S hr hlocks hsz hA hW hK hN hl
  generalize va_A ((wC ad kc nn) σ) sz = A at hA hW ⊢
  generalize ([.ref (ad 27)] : List Value).toArray = args at S ⊢
  obtain ⟨hx, hb, hml, hown, hts⟩ := id S
  have hl : lv_has ls 2 [(0, .ref (ad 27))] := hl
  unfold wp_M_radius at h
  refine lv_aload_n hx hb dM_radius_0 rfl (lv_at hl 0 rfl) ?_
  refine lv_iconst (v := iI 0) hx hb dM_radius_1 rfl ?_
  obtain ⟨s1, es1⟩ : ∃ z : kM, z = va_up σ 27 (va_up (σ 27) 0 0) := ⟨_, rfl⟩
  refine k_put (ty := .int) (ws' := wC ad kc nn s1) (ci := 8) (C := R_M) (T := T_M) (N := 32) hx hb hts (fun w q => gG_in (inG_M w q)) ty_M tk_M nm_M hown hK hW 27 rfl rfl 0 (by decide) (hts _ (gG_in mw_747)) rfl (by decide +kernel) rfl rfl (Nat.le_of_ble_eq_true rfl) (by rw [es1]; exact wC_p27_0 ..) dM_radius_2 (fun H locs hW => ?_)
  have h := h s1 es1
  refine lv_aload_n hx hb dM_radius_5 rfl (lv_at hl 0 rfl) ?_
  obtain ⟨P1, g1, h⟩ := h
  refine kc_vv (As := []) (rest := []) (ci := 8) (q0 := 27) S (c_M_know l dC dI ad kc nn s1 g1) (cwV 0 hts (gV mw_859 mw_861 ps_17 mw_10 k_M_know) rfl rfl rfl (by decide +kernel) ⟨Nat.le_of_ble_eq_true rfl, Nat.le_of_ble_eq_true rfl⟩) hK hN hA hW (fun _ => rfl) rfl rfl rfl hl.1 rfl (Nat.le_of_ble_eq_true rfl) dM_radius_6 ⟨Nat.zero_le _, Nat.zero_le _⟩ (fun s2 H locs hp hW => ?_)
  have h := h s2 hp
  refine lv_iconst (v := iI 0) hx hb dM_radius_9 rfl ?_
  refine lv_istore_n (lv' := [(1, .int (iI 0)), (0, .ref (ad 27))]) hx hb dM_radius_10 rfl hl (by decide) rfl (fun ls hl => ?_)
  obtain ⟨Pe1, k1, h, hk1⟩ := h
  have xW1 : ∀ (v2 : Int) (H : Heap) (locs : List Loc) (ls : Array Slot), kW (dC, dI) vwC A s.heap (wC ad kc nn s2) H locs → lv_has ls 2 [(1, .int (iI v2)), (0, .ref (ad 27))] → Pe1 v2 → W p l e (headSpec ws_M_radius rm_M_radius).room s m args below meth c H locs 0 0 (MQ below (kQi (dC, dI) vwC (wC ad kc nn) P A) args s 0 0 A) (F0 m 35 ls []) := by
    intro v2 H locs ls hW hl h
    have h := hk1 v2 h
    refine lv_iload_n hx hb dM_radius_35 rfl (lv_at hl 0 rfl) ?_
    refine lv_aload_n hx hb dM_radius_36 rfl (lv_at hl 1 rfl) ?_
    refine k_get (ci := 8) (C := R_M) (T := T_M) (N := 32) hx hb hts (fun w q => gG_in (inG_M w q)) hown hK hW.1 27 rfl rfl 3 (by decide) (hts _ (gG_in mw_750)) rfl dM_radius_37 ?_
    obtain ⟨q1, h⟩ := h
    refine ki_div hx hb dM_radius_40 q1 ?_
    exact k_iret hx hb hr hlocks hW dM_radius_41 h
  have lW1 : ∀ (ki1 : Nat) (v1 : Int) (H : Heap) (locs : List Loc) (ls : Array Slot), kW (dC, dI) vwC A s.heap (wC ad kc nn s2) H locs → lv_has ls 2 [(1, .int (iI v1)), (0, .ref (ad 27))] → lp_M_radius_11 nn s2 Pe1 ki1 v1 → W p l e (headSpec ws_M_radius rm_M_radius).room s m args below meth c H locs 0 0 (MQ below (kQi (dC, dI) vwC (wC ad kc nn) P A) args s 0 0 A) (F0 m 11 ls []) := by
    intro ki1
    induction ki1 with
    | zero => intro v1 H locs ls hW hl h; exact h.elim
    | succ ki1 ih1 =>
      intro v1 H locs ls hW hl h
      have h : lpB_M_radius_11 nn s2 Pe1 (lp_M_radius_11 nn s2 Pe1 ki1) v1 := h
      unfold lpB_M_radius_11 at h
      refine lv_iload_n hx hb dM_radius_11 rfl (lv_at hl 0 rfl) ?_
      refine lv_iconst (v := iI 1) hx hb dM_radius_12 rfl ?_
      refine ki_add hx hb dM_radius_13 ?_
      refine lv_iload_n hx hb dM_radius_14 rfl (lv_at hl 0 rfl) ?_
      refine lv_iconst (v := iI 1) hx hb dM_radius_15 rfl ?_
      refine ki_add hx hb dM_radius_16 ?_
      refine ki_mul hx hb dM_radius_17 ?_
      refine lv_aload_n hx hb dM_radius_18 rfl (lv_at hl 1 rfl) ?_
      refine k_get (ci := 8) (C := R_M) (T := T_M) (N := 32) hx hb hts (fun w q => gG_in (inG_M w q)) hown hK hW.1 27 rfl rfl 7 (by decide) (hts _ (gG_in mw_754)) rfl dM_radius_19 ?_
      refine lv_sipush (v := iI 10000) hx hb dM_radius_22 (by decide) ?_
      refine ki_mul hx hb dM_radius_25 ?_
      obtain ⟨q2, h⟩ := h
      obtain ⟨q3, h⟩ := h
      obtain ⟨ht, hf⟩ := h
      refine ki_icmp_gt (tgt := 35) hx hb dM_radius_26 (by decide) q2 q3 (fun c1 => ?_) (fun c1 => ?_)
      · have h := ht c1
        exact xW1 v1 _ _ ls hW (lv_sub hl [0, 1] rfl) h
      · have h := hf c1
        obtain ⟨v3, ev3⟩ : ∃ z : Int, z = v1 + 1 := ⟨_, rfl⟩
        refine lv_iinc (v := iI v3) (lv' := [(1, .int (iI v3)), (0, .ref (ad 27))]) hx hb dM_radius_29 hl (k := 0) rfl (by rw [ev3, ← iI_add]; rfl) (by decide) rfl (fun ls hl => ?_)
        have h := h v3 ev3
        refine lv_goto (tgt := 11) hx hb dM_radius_32 (by decide) ?_
        exact ih1 v3 _ _ ls hW (lv_sub hl [0, 1] rfl) h
  exact lW1 k1 0 _ _ ls hW (lv_sub hl [0, 1] rfl) h
abbrev rm_M_roomOf : Room := { frames := 3, cells := 0, slots := 0, locals := 79 }
set_option maxHeartbeats 4000000 in
set_option maxRecDepth 100000 in
theorem c_M_roomOf (l : Launch) (dC : Nat → ClassId) (dI : Nat → Nat → Nat) (ad : Nat → Nat) (kc : Nat → ClassId) (nn : Nat → Nat) (σ : kM) (p0 : Int) (p1 : Int) (p2 : Int) (p3 : Int) {P : Int → kM → Prop} (h : wp_M_roomOf nn σ p0 p1 p2 p3 P) : kMi l y_M_roomOf ws_M_roomOf rm_M_roomOf (dC, dI) vwC (tyC kc) (wC ad kc nn) nsG σ [.ref (ad 27), .int (iI p0), .int (iI p1), .int (iI p2), .int (iI p3)] P := by
  intro sz
  refine k_enter (cc := b_M_roomOf) (maxL := 5) (ret := (some .int)) (by decide) rfl (Nat.le_of_ble_eq_true rfl) ?_
  intro p e s m below meth c ls S hr hlocks hsz hA hW hK hN hl
  generalize va_A ((wC ad kc nn) σ) sz = A at hA hW ⊢
  generalize ([.ref (ad 27), .int (iI p0), .int (iI p1), .int (iI p2), .int (iI p3)] : List Value).toArray = args at S ⊢
  obtain ⟨hx, hb, hml, hown, hts⟩ := id S
  have hl : lv_has ls 5 [(0, .ref (ad 27)), (1, .int (iI p0)), (2, .int (iI p1)), (3, .int (iI p2)), (4, .int (iI p3))] := hl
  unfold wp_M_roomOf at h
  refine lv_aload_n hx hb dM_roomOf_0 rfl (lv_at hl 0 rfl) ?_
  refine lv_iload_n hx hb dM_roomOf_1 rfl (lv_at hl 1 rfl) ?_
  refine lv_iconst (v := iI 0) hx hb dM_roomOf_2 rfl ?_
  refine lv_aload_n hx hb dM_roomOf_3 rfl (lv_at hl 0 rfl) ?_
  refine k_get (ci := 8) (C := R_M) (T := T_M) (N := 32) hx hb hts (fun w q => gG_in (inG_M w q)) hown hK hW.1 27 rfl rfl 2 (by decide) (hts _ (gG_in mw_749)) rfl dM_roomOf_4 ?_
  obtain ⟨P1, g1, h⟩ := h
  refine kc_sp (As := [.int (iI p0), .int (iI 0), .int (iI (σ 27 2))]) (rest := [.ref (ad 27)]) S (c_M_isIn l dC dI (tyC kc) (wC ad kc nn) nn σ p0 0 (σ 27 2) g1) (cwS 3 hts (gS mw_852 mw_853 mw_10 k_M_isIn) rfl rfl rfl (by decide +kernel) ⟨Nat.le_of_ble_eq_true rfl, Nat.le_of_ble_eq_true rfl⟩) hK hN hW.1 rfl hl.1 rfl (Nat.le_of_ble_eq_true rfl) dM_roomOf_7 ⟨Nat.zero_le _, Nat.zero_le _⟩ (fun r1 hp => ?_)
  have h := h r1 hp
  obtain ⟨q1, h⟩ := h
  have jW1 : ∀ (v1 : Int) (H : Heap) (locs : List Loc) (ls : Array Slot), kW (dC, dI) vwC A s.heap (wC ad kc nn σ) H locs → lv_has ls 5 [(0, .ref (ad 27)), (1, .int (iI p0)), (2, .int (iI p1)), (3, .int (iI p2)), (4, .int (iI p3))] → jn_M_roomOf_55 nn p0 p1 p2 p3 σ P v1 → W p l e (headSpec ws_M_roomOf rm_M_roomOf).room s m args below meth c H locs 0 0 (MQ below (kQi (dC, dI) vwC (wC ad kc nn) P A) args s 0 0 A) (F0 m 55 ls [.int (iI v1), .ref (ad 27)]) := by
    intro v1 H locs ls hW hl h
    unfold jn_M_roomOf_55 at h
    obtain ⟨s1, es1⟩ : ∃ z : kM, z = va_up σ 27 (va_up (σ 27) 0 v1) := ⟨_, rfl⟩
    refine k_put (ty := .int) (ws' := wC ad kc nn s1) (ci := 8) (C := R_M) (T := T_M) (N := 32) hx hb hts (fun w q => gG_in (inG_M w q)) ty_M tk_M nm_M hown hK hW 27 rfl rfl 0 (by decide) (hts _ (gG_in mw_747)) rfl (by decide +kernel) rfl rfl (Nat.le_of_ble_eq_true rfl) (by rw [es1]; exact wC_p27_0 ..) dM_roomOf_55 (fun H locs hW => ?_)
    have h := h s1 es1
    refine lv_aload_n hx hb dM_roomOf_58 rfl (lv_at hl 0 rfl) ?_
    refine k_get (ci := 8) (C := R_M) (T := T_M) (N := 32) hx hb hts (fun w q => gG_in (inG_M w q)) hown hK hW.1 27 rfl rfl 0 (by decide) (hts _ (gG_in mw_747)) rfl dM_roomOf_59 ?_
    obtain ⟨q2, h⟩ := h
    obtain ⟨ht, hf⟩ := h
    refine ki_if_le (tgt := 67) hx hb dM_roomOf_62 (by decide) q2 (fun c1 => ?_) (fun c1 => ?_)
    · have h := ht c1
      refine lv_aload_n hx hb dM_roomOf_67 rfl (lv_at hl 0 rfl) ?_
      obtain ⟨P2, g2, h⟩ := h
      refine kc_vv (As := []) (rest := []) (ci := 8) (q0 := 27) S (c_M_know l dC dI ad kc nn s1 g2) (cwV 0 hts (gV mw_859 mw_861 ps_17 mw_10 k_M_know) rfl rfl rfl (by decide +kernel) ⟨Nat.le_of_ble_eq_true rfl, Nat.le_of_ble_eq_true rfl⟩) hK hN hA hW (fun _ => rfl) rfl rfl rfl hl.1 rfl (Nat.le_of_ble_eq_true rfl) dM_roomOf_68 ⟨Nat.zero_le _, Nat.zero_le _⟩ (fun s2 H locs hp hW => ?_)
      have h := h s2 hp
      refine lv_aload_n hx hb dM_roomOf_71 rfl (lv_at hl 0 rfl) ?_
      refine lv_iload_n hx hb dM_roomOf_72 rfl (lv_at hl 1 rfl) ?_
      refine lv_iload_n hx hb dM_roomOf_73 rfl (lv_at hl 2 rfl) ?_
      refine lv_iload_n hx hb dM_roomOf_74 rfl (lv_at hl 3 rfl) ?_
      refine lv_iload hx hb dM_roomOf_75 (lv_at hl 4 rfl) ?_
      obtain ⟨P3, g3, h⟩ := h
      refine kc_vp (As := [.int (iI p0), .int (iI p1), .int (iI p2), .int (iI p3)]) (rest := []) (ci := 8) (q0 := 27) S (c_M_roomAt l dC dI ad kc nn s2 p0 p1 p2 p3 g3) (cwV 4 hts (gV mw_873 mw_875 ps_19 mw_10 k_M_roomAt) rfl rfl rfl (by decide +kernel) ⟨Nat.le_of_ble_eq_true rfl, Nat.le_of_ble_eq_true rfl⟩) hK hN hW.1 rfl rfl rfl hl.1 rfl (Nat.le_of_ble_eq_true rfl) dM_roomOf_77 ⟨Nat.zero_le _, Nat.zero_le _⟩ (fun r2 hp => ?_)
      have h := h r2 hp
      exact k_iret hx hb hr hlocks hW dM_roomOf_80 h
    · have h := hf c1
      refine lv_iconst (v := iI 0) hx hb dM_roomOf_65 rfl ?_
      exact k_iret hx hb hr hlocks hW dM_roomOf_66 h
  obtain ⟨ht, hf⟩ := h
  refine ki_if_eq (tgt := 54) hx hb dM_roomOf_10 (by decide) q1 (fun c2 => ?_) (fun c2 => ?_)
  · have h := ht c2
    refine lv_iconst (v := iI 1) hx hb dM_roomOf_54 rfl ?_
    exact jW1 1 _ _ ls hW (lv_sub hl [0, 1, 2, 3, 4] rfl) h
  · have h := hf c2
    refine lv_iload_n hx hb dM_roomOf_13 rfl (lv_at hl 2 rfl) ?_
    refine lv_iconst (v := iI 0) hx hb dM_roomOf_14 rfl ?_
    refine lv_aload_n hx hb dM_roomOf_15 rfl (lv_at hl 0 rfl) ?_
    refine k_get (ci := 8) (C := R_M) (T := T_M) (N := 32) hx hb hts (fun w q => gG_in (inG_M w q)) hown hK hW.1 27 rfl rfl 2 (by decide) (hts _ (gG_in mw_749)) rfl dM_roomOf_16 ?_
    obtain ⟨P4, g4, h⟩ := h
    refine kc_sp (As := [.int (iI p1), .int (iI 0), .int (iI (σ 27 2))]) (rest := [.ref (ad 27)]) S (c_M_isIn l dC dI (tyC kc) (wC ad kc nn) nn σ p1 0 (σ 27 2) g4) (cwS 3 hts (gS mw_852 mw_853 mw_10 k_M_isIn) rfl rfl rfl (by decide +kernel) ⟨Nat.le_of_ble_eq_true rfl, Nat.le_of_ble_eq_true rfl⟩) hK hN hW.1 rfl hl.1 rfl (Nat.le_of_ble_eq_true rfl) dM_roomOf_19 ⟨Nat.zero_le _, Nat.zero_le _⟩ (fun r3 hp => ?_)
    have h := h r3 hp
    obtain ⟨q3, h⟩ := h
    obtain ⟨ht, hf⟩ := h
    refine ki_if_eq (tgt := 54) hx hb dM_roomOf_22 (by decide) q3 (fun c3 => ?_) (fun c3 => ?_)
    · have h := ht c3
      refine lv_iconst (v := iI 1) hx hb dM_roomOf_54 rfl ?_
      exact jW1 1 _ _ ls hW (lv_sub hl [0, 1, 2, 3, 4] rfl) h
    · have h := hf c3
      refine lv_iload_n hx hb dM_roomOf_25 rfl (lv_at hl 3 rfl) ?_
      refine lv_iconst (v := iI 0) hx hb dM_roomOf_26 rfl ?_
      refine lv_aload_n hx hb dM_roomOf_27 rfl (lv_at hl 0 rfl) ?_
      refine k_get (ci := 8) (C := R_M) (T := T_M) (N := 32) hx hb hts (fun w q => gG_in (inG_M w q)) hown hK hW.1 27 rfl rfl 2 (by decide) (hts _ (gG_in mw_749)) rfl dM_roomOf_28 ?_
      obtain ⟨P5, g5, h⟩ := h
      refine kc_sp (As := [.int (iI p2), .int (iI 0), .int (iI (σ 27 2))]) (rest := [.ref (ad 27)]) S (c_M_isIn l dC dI (tyC kc) (wC ad kc nn) nn σ p2 0 (σ 27 2) g5) (cwS 3 hts (gS mw_852 mw_853 mw_10 k_M_isIn) rfl rfl rfl (by decide +kernel) ⟨Nat.le_of_ble_eq_true rfl, Nat.le_of_ble_eq_true rfl⟩) hK hN hW.1 rfl hl.1 rfl (Nat.le_of_ble_eq_true rfl) dM_roomOf_31 ⟨Nat.zero_le _, Nat.zero_le _⟩ (fun r4 hp => ?_)
      have h := h r4 hp
      obtain ⟨q4, h⟩ := h
      obtain ⟨ht, hf⟩ := h
      refine ki_if_eq (tgt := 54) hx hb dM_roomOf_34 (by decide) q4 (fun c4 => ?_) (fun c4 => ?_)
      · have h := ht c4
        refine lv_iconst (v := iI 1) hx hb dM_roomOf_54 rfl ?_
        exact jW1 1 _ _ ls hW (lv_sub hl [0, 1, 2, 3, 4] rfl) h
      · have h := hf c4
        refine lv_iload hx hb dM_roomOf_37 (lv_at hl 4 rfl) ?_
        refine lv_iconst (v := iI 0) hx hb dM_roomOf_39 rfl ?_
        refine lv_aload_n hx hb dM_roomOf_40 rfl (lv_at hl 0 rfl) ?_
        refine k_get (ci := 8) (C := R_M) (T := T_M) (N := 32) hx hb hts (fun w q => gG_in (inG_M w q)) hown hK hW.1 27 rfl rfl 2 (by decide) (hts _ (gG_in mw_749)) rfl dM_roomOf_41 ?_
        obtain ⟨P6, g6, h⟩ := h
        refine kc_sp (As := [.int (iI p3), .int (iI 0), .int (iI (σ 27 2))]) (rest := [.ref (ad 27)]) S (c_M_isIn l dC dI (tyC kc) (wC ad kc nn) nn σ p3 0 (σ 27 2) g6) (cwS 3 hts (gS mw_852 mw_853 mw_10 k_M_isIn) rfl rfl rfl (by decide +kernel) ⟨Nat.le_of_ble_eq_true rfl, Nat.le_of_ble_eq_true rfl⟩) hK hN hW.1 rfl hl.1 rfl (Nat.le_of_ble_eq_true rfl) dM_roomOf_44 ⟨Nat.zero_le _, Nat.zero_le _⟩ (fun r5 hp => ?_)
        have h := h r5 hp
        obtain ⟨q5, h⟩ := h
        obtain ⟨ht, hf⟩ := h
        refine ki_if_eq (tgt := 54) hx hb dM_roomOf_47 (by decide) q5 (fun c5 => ?_) (fun c5 => ?_)
        · have h := ht c5
          refine lv_iconst (v := iI 1) hx hb dM_roomOf_54 rfl ?_
          exact jW1 1 _ _ ls hW (lv_sub hl [0, 1, 2, 3, 4] rfl) h
        · have h := hf c5
          refine lv_iconst (v := iI 0) hx hb dM_roomOf_50 rfl ?_
          refine lv_goto (tgt := 55) hx hb dM_roomOf_51 (by decide) ?_
          exact jW1 0 _ _ ls hW (lv_sub hl [0, 1, 2, 3, 4] rfl) h
abbrev rm_M_peel : Room := { frames := 4, cells := 0, slots := 0, locals := 100 }
set_option maxHeartbeats 4000000 in
set_option maxRecDepth 100000 in
theorem c_M_peel (l : Launch) (dC : Nat → ClassId) (dI : Nat → Nat → Nat) (ad : Nat → Nat) (kc : Nat → ClassId) (nn : Nat → Nat) (σ : kM) (p0 : Int) (p1 : Int) {P : Int → kM → Prop} (h : wp_M_peel nn σ p0 p1 P) : kMi l y_M_peel ws_M_peel rm_M_peel (dC, dI) vwC (tyC kc) (wC ad kc nn) nsG σ [.ref (ad 27), .int (iI p0), .int (iI p1)] P := by
  intro sz
  refine k_enter (cc := b_M_peel) (maxL := 3) (ret := (some .int)) (by decide) rfl (Nat.le_of_ble_eq_true rfl) ?_
  intro p e s m below meth c ls S hr hlocks hsz hA hW hK hN hl
  generalize va_A ((wC ad kc nn) σ) sz = A at hA hW ⊢
  generalize ([.ref (ad 27), .int (iI p0), .int (iI p1)] : List Value).toArray = args at S ⊢
  obtain ⟨hx, hb, hml, hown, hts⟩ := id S
  have hl : lv_has ls 3 [(0, .ref (ad 27)), (1, .int (iI p0)), (2, .int (iI p1))] := hl
  unfold wp_M_peel at h
  refine lv_aload_n hx hb dM_peel_0 rfl (lv_at hl 0 rfl) ?_
  refine lv_iload_n hx hb dM_peel_1 rfl (lv_at hl 1 rfl) ?_
  refine lv_iconst (v := iI 1) hx hb dM_peel_2 rfl ?_
  refine lv_sipush (v := iI 1000) hx hb dM_peel_3 (by decide) ?_
  obtain ⟨P1, g1, h⟩ := h
  refine kc_sp (As := [.int (iI p0), .int (iI 1), .int (iI 1000)]) (rest := [.ref (ad 27)]) S (c_M_isIn l dC dI (tyC kc) (wC ad kc nn) nn σ p0 1 1000 g1) (cwS 3 hts (gS mw_852 mw_853 mw_10 k_M_isIn) rfl rfl rfl (by decide +kernel) ⟨Nat.le_of_ble_eq_true rfl, Nat.le_of_ble_eq_true rfl⟩) hK hN hW.1 rfl hl.1 rfl (Nat.le_of_ble_eq_true rfl) dM_peel_6 ⟨Nat.zero_le _, Nat.zero_le _⟩ (fun r1 hp => ?_)
  have h := h r1 hp
  obtain ⟨q1, h⟩ := h
  have jW2 : ∀ (v1 : Int) (H : Heap) (locs : List Loc) (ls : Array Slot), kW (dC, dI) vwC A s.heap (wC ad kc nn σ) H locs → lv_has ls 3 [(0, .ref (ad 27)), (1, .int (iI p0)), (2, .int (iI p1))] → jn_M_peel_28 nn p0 p1 σ P v1 → W p l e (headSpec ws_M_peel rm_M_peel).room s m args below meth c H locs 0 0 (MQ below (kQi (dC, dI) vwC (wC ad kc nn) P A) args s 0 0 A) (F0 m 28 ls [.int (iI v1), .ref (ad 27)]) := by
    intro v1 H locs ls hW hl h
    unfold jn_M_peel_28 at h
    obtain ⟨s1, es1⟩ : ∃ z : kM, z = va_up σ 27 (va_up (σ 27) 0 v1) := ⟨_, rfl⟩
    refine k_put (ty := .int) (ws' := wC ad kc nn s1) (ci := 8) (C := R_M) (T := T_M) (N := 32) hx hb hts (fun w q => gG_in (inG_M w q)) ty_M tk_M nm_M hown hK hW 27 rfl rfl 0 (by decide) (hts _ (gG_in mw_747)) rfl (by decide +kernel) rfl rfl (Nat.le_of_ble_eq_true rfl) (by rw [es1]; exact wC_p27_0 ..) dM_peel_28 (fun H locs hW => ?_)
    have h := h s1 es1
    refine lv_aload_n hx hb dM_peel_31 rfl (lv_at hl 0 rfl) ?_
    refine k_get (ci := 8) (C := R_M) (T := T_M) (N := 32) hx hb hts (fun w q => gG_in (inG_M w q)) hown hK hW.1 27 rfl rfl 0 (by decide) (hts _ (gG_in mw_747)) rfl dM_peel_32 ?_
    obtain ⟨q2, h⟩ := h
    obtain ⟨ht, hf⟩ := h
    refine ki_if_le (tgt := 40) hx hb dM_peel_35 (by decide) q2 (fun c1 => ?_) (fun c1 => ?_)
    · have h := ht c1
      refine lv_aload_n hx hb dM_peel_40 rfl (lv_at hl 0 rfl) ?_
      refine lv_aload_n hx hb dM_peel_41 rfl (lv_at hl 0 rfl) ?_
      obtain ⟨P2, g2, h⟩ := h
      refine kc_vi (As := []) (rest := [.ref (ad 27)]) (ci := 8) (q0 := 27) S (c_M_radius l dC dI ad kc nn s1 g2) (cwV 0 hts (gV mw_894 mw_883 mw_884 mw_10 k_M_radius) rfl rfl rfl (by decide +kernel) ⟨Nat.le_of_ble_eq_true rfl, Nat.le_of_ble_eq_true rfl⟩) hK hN hA hW (fun _ => rfl) rfl rfl rfl hl.1 rfl (Nat.le_of_ble_eq_true rfl) dM_peel_42 ⟨Nat.zero_le _, Nat.zero_le _⟩ (fun r2 s2 H locs hp hW => ?_)
      have h := h r2 s2 hp
      obtain ⟨s3, es3⟩ : ∃ z : kM, z = va_up s2 27 (va_up (s2 27) 12 r2) := ⟨_, rfl⟩
      refine k_put (ty := .int) (ws' := wC ad kc nn s3) (ci := 8) (C := R_M) (T := T_M) (N := 32) hx hb hts (fun w q => gG_in (inG_M w q)) ty_M tk_M nm_M hown hK hW 27 rfl rfl 12 (by decide) (hts _ (gG_in mw_759)) rfl (by decide +kernel) rfl rfl (Nat.le_of_ble_eq_true rfl) (by rw [es3]; exact wC_p27_12 ..) dM_peel_45 (fun H locs hW => ?_)
      have h := h s3 es3
      refine lv_aload_n hx hb dM_peel_48 rfl (lv_at hl 0 rfl) ?_
      refine lv_iload_n hx hb dM_peel_49 rfl (lv_at hl 1 rfl) ?_
      obtain ⟨s4, es4⟩ : ∃ z : kM, z = va_up s3 27 (va_up (s3 27) 10 p0) := ⟨_, rfl⟩
      refine k_put (ty := .int) (ws' := wC ad kc nn s4) (ci := 8) (C := R_M) (T := T_M) (N := 32) hx hb hts (fun w q => gG_in (inG_M w q)) ty_M tk_M nm_M hown hK hW 27 rfl rfl 10 (by decide) (hts _ (gG_in mw_757)) rfl (by decide +kernel) rfl rfl (Nat.le_of_ble_eq_true rfl) (by rw [es4]; exact wC_p27_10 ..) dM_peel_50 (fun H locs hW => ?_)
      have h := h s4 es4
      refine lv_aload_n hx hb dM_peel_53 rfl (lv_at hl 0 rfl) ?_
      refine lv_aload_n hx hb dM_peel_54 rfl (lv_at hl 0 rfl) ?_
      refine k_get (ci := 8) (C := R_M) (T := T_M) (N := 32) hx hb hts (fun w q => gG_in (inG_M w q)) hown hK hW.1 27 rfl rfl 12 (by decide) (hts _ (gG_in mw_759)) rfl dM_peel_55 ?_
      refine lv_iload_n hx hb dM_peel_58 rfl (lv_at hl 2 rfl) ?_
      obtain ⟨q3, h⟩ := h
      obtain ⟨q4, h⟩ := h
      have jW1 : ∀ (v2 : Int) (H : Heap) (locs : List Loc) (ls : Array Slot), kW (dC, dI) vwC A s.heap (wC ad kc nn s4) H locs → lv_has ls 3 [(0, .ref (ad 27))] → jn_M_peel_77 nn P s4 v2 → W p l e (headSpec ws_M_peel rm_M_peel).room s m args below meth c H locs 0 0 (MQ below (kQi (dC, dI) vwC (wC ad kc nn) P A) args s 0 0 A) (F0 m 77 ls [.int (iI v2), .ref (ad 27)]) := by
        intro v2 H locs ls hW hl h
        unfold jn_M_peel_77 at h
        obtain ⟨s5, es5⟩ : ∃ z : kM, z = va_up s4 27 (va_up (s4 27) 11 v2) := ⟨_, rfl⟩
        refine k_put (ty := .int) (ws' := wC ad kc nn s5) (ci := 8) (C := R_M) (T := T_M) (N := 32) hx hb hts (fun w q => gG_in (inG_M w q)) ty_M tk_M nm_M hown hK hW 27 rfl rfl 11 (by decide) (hts _ (gG_in mw_758)) rfl (by decide +kernel) rfl rfl (Nat.le_of_ble_eq_true rfl) (by rw [es5]; exact wC_p27_11 ..) dM_peel_77 (fun H locs hW => ?_)
        have h := h s5 es5
        refine lv_aload_n hx hb dM_peel_80 rfl (lv_at hl 0 rfl) ?_
        refine lv_iconst (v := iI 1) hx hb dM_peel_81 rfl ?_
        obtain ⟨s6, es6⟩ : ∃ z : kM, z = va_up s5 27 (va_up (s5 27) 9 1) := ⟨_, rfl⟩
        refine k_put (ty := .boolean) (ws' := wC ad kc nn s6) (ci := 8) (C := R_M) (T := T_M) (N := 32) hx hb hts (fun w q => gG_in (inG_M w q)) ty_M tk_M nm_M hown hK hW 27 rfl rfl 9 (by decide) (hts _ (gG_in mw_756)) rfl (by decide +kernel) (narZ (by decide)) (fitZ (by decide)) (Nat.le_of_ble_eq_true rfl) (by rw [es6]; exact wC_p27_9 ..) dM_peel_82 (fun H locs hW => ?_)
        have h := h s6 es6
        refine lv_aload_n hx hb dM_peel_85 rfl (lv_at hl 0 rfl) ?_
        refine lv_iconst (v := iI 0) hx hb dM_peel_86 rfl ?_
        obtain ⟨s7, es7⟩ : ∃ z : kM, z = va_up s6 27 (va_up (s6 27) 21 0) := ⟨_, rfl⟩
        refine k_put (ty := .boolean) (ws' := wC ad kc nn s7) (ci := 8) (C := R_M) (T := T_M) (N := 32) hx hb hts (fun w q => gG_in (inG_M w q)) ty_M tk_M nm_M hown hK hW 27 rfl rfl 21 (by decide) (hts _ (gG_in mw_768)) rfl (by decide +kernel) (narZ (by decide)) (fitZ (by decide)) (Nat.le_of_ble_eq_true rfl) (by rw [es7]; exact wC_p27_21 ..) dM_peel_87 (fun H locs hW => ?_)
        have h := h s7 es7
        refine lv_aload_n hx hb dM_peel_90 rfl (lv_at hl 0 rfl) ?_
        refine k_get (ci := 8) (C := R_M) (T := T_M) (N := 32) hx hb hts (fun w q => gG_in (inG_M w q)) hown hK hW.1 27 rfl rfl 11 (by decide) (hts _ (gG_in mw_758)) rfl dM_peel_91 ?_
        exact k_iret hx hb hr hlocks hW dM_peel_94 h
      obtain ⟨ht, hf⟩ := h
      refine ki_icmp_ge (tgt := 66) hx hb dM_peel_59 (by decide) q3 q4 (fun c2 => ?_) (fun c2 => ?_)
      · have h := ht c2
        refine lv_aload_n hx hb dM_peel_66 rfl (lv_at hl 0 rfl) ?_
        refine k_get (ci := 8) (C := R_M) (T := T_M) (N := 32) hx hb hts (fun w q => gG_in (inG_M w q)) hown hK hW.1 27 rfl rfl 12 (by decide) (hts _ (gG_in mw_759)) rfl dM_peel_67 ?_
        refine lv_iload_n hx hb dM_peel_70 rfl (lv_at hl 2 rfl) ?_
        refine ki_sub hx hb dM_peel_71 ?_
        refine lv_aload_n hx hb dM_peel_72 rfl (lv_at hl 0 rfl) ?_
        refine k_get (ci := 8) (C := R_M) (T := T_M) (N := 32) hx hb hts (fun w q => gG_in (inG_M w q)) hown hK hW.1 27 rfl rfl 10 (by decide) (hts _ (gG_in mw_757)) rfl dM_peel_73 ?_
        obtain ⟨q5, h⟩ := h
        refine ki_div hx hb dM_peel_76 q5 ?_
        exact jW1 (((s4 27 12) - p1) / (s4 27 10)) _ _ ls hW (lv_sub hl [0] rfl) h
      · have h := hf c2
        refine lv_iconst (v := iI 0) hx hb dM_peel_62 rfl ?_
        refine lv_goto (tgt := 77) hx hb dM_peel_63 (by decide) ?_
        exact jW1 0 _ _ ls hW (lv_sub hl [0] rfl) h
    · have h := hf c1
      refine lv_iconst (v := iI 0) hx hb dM_peel_38 rfl ?_
      exact k_iret hx hb hr hlocks hW dM_peel_39 h
  obtain ⟨ht, hf⟩ := h
  refine ki_if_eq (tgt := 27) hx hb dM_peel_9 (by decide) q1 (fun c3 => ?_) (fun c3 => ?_)
  · have h := ht c3
    refine lv_iconst (v := iI 1) hx hb dM_peel_27 rfl ?_
    exact jW2 1 _ _ ls hW (lv_sub hl [0, 1, 2] rfl) h
  · have h := hf c3
    refine lv_iload_n hx hb dM_peel_12 rfl (lv_at hl 2 rfl) ?_
    refine lv_iconst (v := iI 0) hx hb dM_peel_13 rfl ?_
    refine lv_sipush (v := iI 1000) hx hb dM_peel_14 (by decide) ?_
    obtain ⟨P3, g3, h⟩ := h
    refine kc_sp (As := [.int (iI p1), .int (iI 0), .int (iI 1000)]) (rest := [.ref (ad 27)]) S (c_M_isIn l dC dI (tyC kc) (wC ad kc nn) nn σ p1 0 1000 g3) (cwS 3 hts (gS mw_852 mw_853 mw_10 k_M_isIn) rfl rfl rfl (by decide +kernel) ⟨Nat.le_of_ble_eq_true rfl, Nat.le_of_ble_eq_true rfl⟩) hK hN hW.1 rfl hl.1 rfl (Nat.le_of_ble_eq_true rfl) dM_peel_17 ⟨Nat.zero_le _, Nat.zero_le _⟩ (fun r3 hp => ?_)
    have h := h r3 hp
    obtain ⟨q6, h⟩ := h
    obtain ⟨ht, hf⟩ := h
    refine ki_if_eq (tgt := 27) hx hb dM_peel_20 (by decide) q6 (fun c4 => ?_) (fun c4 => ?_)
    · have h := ht c4
      refine lv_iconst (v := iI 1) hx hb dM_peel_27 rfl ?_
      exact jW2 1 _ _ ls hW (lv_sub hl [0, 1, 2] rfl) h
    · have h := hf c4
      refine lv_iconst (v := iI 0) hx hb dM_peel_23 rfl ?_
      refine lv_goto (tgt := 28) hx hb dM_peel_24 (by decide) ?_
      exact jW2 0 _ _ ls hW (lv_sub hl [0, 1, 2] rfl) h
abbrev rm_M_beforeTurn : Room := { frames := 0, cells := 0, slots := 0, locals := 0 }
set_option maxHeartbeats 4000000 in
set_option maxRecDepth 100000 in
theorem c_M_beforeTurn (l : Launch) (dC : Nat → ClassId) (dI : Nat → Nat → Nat) (ad : Nat → Nat) (kc : Nat → ClassId) (nn : Nat → Nat) (σ : kM) (p0 : Int) {P : Int → Prop} (h : wp_M_beforeTurn nn σ p0 P) : kMp l y_M_beforeTurn ws_M_beforeTurn rm_M_beforeTurn (dC, dI) vwC (tyC kc) (wC ad kc nn) nsG σ [.ref (ad 27), .int (iI p0)] P := by
  refine k_enterP (cc := b_M_beforeTurn) (maxL := 4) (ret := (some .int)) (by decide) rfl (Nat.le_of_ble_eq_true rfl) ?_
  intro p e s m below meth c ls S hr hlocks hP hK hN hl
  generalize ([.ref (ad 27), .int (iI p0)] : List Value).toArray = args at S ⊢
  obtain ⟨hx, hb, hml, hown, hts⟩ := id S
  have hl : lv_has ls 4 [(0, .ref (ad 27)), (1, .int (iI p0))] := hl
  unfold wp_M_beforeTurn at h
  refine lv_iconst (v := iI 0) hx hb dM_beforeTurn_0 rfl ?_
  refine lv_istore_n (lv' := [(2, .int (iI 0)), (0, .ref (ad 27)), (1, .int (iI p0))]) hx hb dM_beforeTurn_1 rfl hl (by decide) rfl (fun ls hl => ?_)
  refine lv_iconst (v := iI 0) hx hb dM_beforeTurn_2 rfl ?_
  refine lv_istore_n (lv' := [(3, .int (iI 0)), (2, .int (iI 0)), (0, .ref (ad 27)), (1, .int (iI p0))]) hx hb dM_beforeTurn_3 rfl hl (by decide) rfl (fun ls hl => ?_)
  obtain ⟨Pe1, k1, h, hk1⟩ := h
  have xW1 : ∀ (v3 : Int) (v4 : Int) (ls : Array Slot), lv_has ls 4 [(2, .int (iI v4))] → Pe1 v3 v4 → W p l e (headSpec ws_M_beforeTurn rm_M_beforeTurn).room s m args below meth c s.heap [] 0 0 (MQ below (kQp P) args s 0 0 (fun _ => False)) (F0 m 29 ls []) := by
    intro v3 v4 ls hl h
    have h := hk1 v3 v4 h
    refine lv_iload_n hx hb dM_beforeTurn_29 rfl (lv_at hl 0 rfl) ?_
    refine lv_sipush (v := iI 710) hx hb dM_beforeTurn_30 (by decide) ?_
    refine ki_mul hx hb dM_beforeTurn_33 ?_
    refine lv_bipush (v := iI 113) hx hb dM_beforeTurn_34 (by decide) ?_
    obtain ⟨q1, h⟩ := h
    refine ki_div hx hb dM_beforeTurn_36 ⟨q1.1, by constructor <;> decide, q1.2, by decide⟩ ?_
    exact k_iretP hx hb hr hlocks dM_beforeTurn_37 h
  have lW1 : ∀ (ki1 : Nat) (v1 : Int) (v2 : Int) (ls : Array Slot), lv_has ls 4 [(3, .int (iI v1)), (2, .int (iI v2)), (0, .ref (ad 27)), (1, .int (iI p0))] → lp_M_beforeTurn_4 nn p0 σ Pe1 ki1 v1 v2 → W p l e (headSpec ws_M_beforeTurn rm_M_beforeTurn).room s m args below meth c s.heap [] 0 0 (MQ below (kQp P) args s 0 0 (fun _ => False)) (F0 m 4 ls []) := by
    intro ki1
    induction ki1 with
    | zero => intro v1 v2 ls hl h; exact h.elim
    | succ ki1 ih1 =>
      intro v1 v2 ls hl h
      have h : lpB_M_beforeTurn_4 nn p0 σ Pe1 (lp_M_beforeTurn_4 nn p0 σ Pe1 ki1) v1 v2 := h
      unfold lpB_M_beforeTurn_4 at h
      refine lv_iload_n hx hb dM_beforeTurn_4 rfl (lv_at hl 0 rfl) ?_
      refine lv_iload_n hx hb dM_beforeTurn_5 rfl (lv_at hl 3 rfl) ?_
      obtain ⟨q2, h⟩ := h
      obtain ⟨q3, h⟩ := h
      obtain ⟨ht, hf⟩ := h
      refine ki_icmp_ge (tgt := 29) hx hb dM_beforeTurn_6 (by decide) q2 q3 (fun c1 => ?_) (fun c1 => ?_)
      · have h := ht c1
        exact xW1 v1 v2 ls (lv_sub hl [1] rfl) h
      · have h := hf c1
        refine lv_iload_n hx hb dM_beforeTurn_9 rfl (lv_at hl 1 rfl) ?_
        refine lv_aload_n hx hb dM_beforeTurn_10 rfl (lv_at hl 2 rfl) ?_
        refine k_get (ci := 8) (C := R_M) (T := T_M) (N := 32) hx hb hts (fun w q => gG_in (inG_M w q)) hown hK hP 27 rfl rfl 12 (by decide) (hts _ (gG_in mw_759)) rfl dM_beforeTurn_11 ?_
        refine ki_add hx hb dM_beforeTurn_14 ?_
        refine lv_iload_n hx hb dM_beforeTurn_15 rfl (lv_at hl 0 rfl) ?_
        refine lv_aload_n hx hb dM_beforeTurn_16 rfl (lv_at hl 2 rfl) ?_
        refine k_get (ci := 8) (C := R_M) (T := T_M) (N := 32) hx hb hts (fun w q => gG_in (inG_M w q)) hown hK hP 27 rfl rfl 10 (by decide) (hts _ (gG_in mw_757)) rfl dM_beforeTurn_17 ?_
        refine ki_mul hx hb dM_beforeTurn_20 ?_
        refine ki_sub hx hb dM_beforeTurn_21 ?_
        refine ki_nm (fun v5 ev5 => ?_)
        have h := h v5 ev5
        refine lv_istore_n (lv' := [(2, .int (iI v5)), (3, .int (iI v1)), (0, .ref (ad 27)), (1, .int (iI p0))]) hx hb dM_beforeTurn_22 rfl hl (by decide) rfl (fun ls hl => ?_)
        obtain ⟨v6, ev6⟩ : ∃ z : Int, z = v1 + 1 := ⟨_, rfl⟩
        refine lv_iinc (v := iI v6) (lv' := [(3, .int (iI v6)), (2, .int (iI v5)), (0, .ref (ad 27)), (1, .int (iI p0))]) hx hb dM_beforeTurn_23 hl (k := 1) rfl (by rw [ev6, ← iI_add]; rfl) (by decide) rfl (fun ls hl => ?_)
        have h := h v6 ev6
        refine lv_goto (tgt := 4) hx hb dM_beforeTurn_26 (by decide) ?_
        exact ih1 v6 v5 ls (lv_sub hl [0, 1, 2, 3] rfl) h
  exact lW1 k1 0 0 ls (lv_sub hl [0, 1, 2, 3] rfl) h
abbrev rm_M_before : Room := { frames := 1, cells := 0, slots := 0, locals := 23 }
set_option maxHeartbeats 4000000 in
set_option maxRecDepth 100000 in
theorem c_M_before (l : Launch) (dC : Nat → ClassId) (dI : Nat → Nat → Nat) (ad : Nat → Nat) (kc : Nat → ClassId) (nn : Nat → Nat) (σ : kM) (p0 : Int) {P : Int → kM → Prop} (h : wp_M_before nn σ p0 P) : kMi l y_M_before ws_M_before rm_M_before (dC, dI) vwC (tyC kc) (wC ad kc nn) nsG σ [.ref (ad 27), .int (iI p0)] P := by
  intro sz
  refine k_enter (cc := b_M_before) (maxL := 2) (ret := (some .int)) (by decide) rfl (Nat.le_of_ble_eq_true rfl) ?_
  intro p e s m below meth c ls S hr hlocks hsz hA hW hK hN hl
  generalize va_A ((wC ad kc nn) σ) sz = A at hA hW ⊢
  generalize ([.ref (ad 27), .int (iI p0)] : List Value).toArray = args at S ⊢
  obtain ⟨hx, hb, hml, hown, hts⟩ := id S
  have hl : lv_has ls 2 [(0, .ref (ad 27)), (1, .int (iI p0))] := hl
  unfold wp_M_before at h
  refine lv_aload_n hx hb dM_before_0 rfl (lv_at hl 0 rfl) ?_
  refine lv_aload_n hx hb dM_before_1 rfl (lv_at hl 0 rfl) ?_
  refine k_get (ci := 8) (C := R_M) (T := T_M) (N := 32) hx hb hts (fun w q => gG_in (inG_M w q)) hown hK hW.1 27 rfl rfl 9 (by decide) (hts _ (gG_in mw_756)) rfl dM_before_2 ?_
  obtain ⟨q1, h⟩ := h
  have jW1 : ∀ (v1 : Int) (H : Heap) (locs : List Loc) (ls : Array Slot), kW (dC, dI) vwC A s.heap (wC ad kc nn σ) H locs → lv_has ls 2 [(0, .ref (ad 27)), (1, .int (iI p0))] → jn_M_before_29 nn p0 σ P v1 → W p l e (headSpec ws_M_before rm_M_before).room s m args below meth c H locs 0 0 (MQ below (kQi (dC, dI) vwC (wC ad kc nn) P A) args s 0 0 A) (F0 m 29 ls [.int (iI v1), .ref (ad 27)]) := by
    intro v1 H locs ls hW hl h
    unfold jn_M_before_29 at h
    obtain ⟨s1, es1⟩ : ∃ z : kM, z = va_up σ 27 (va_up (σ 27) 0 v1) := ⟨_, rfl⟩
    refine k_put (ty := .int) (ws' := wC ad kc nn s1) (ci := 8) (C := R_M) (T := T_M) (N := 32) hx hb hts (fun w q => gG_in (inG_M w q)) ty_M tk_M nm_M hown hK hW 27 rfl rfl 0 (by decide) (hts _ (gG_in mw_747)) rfl (by decide +kernel) rfl rfl (Nat.le_of_ble_eq_true rfl) (by rw [es1]; exact wC_p27_0 ..) dM_before_29 (fun H locs hW => ?_)
    have h := h s1 es1
    refine lv_aload_n hx hb dM_before_32 rfl (lv_at hl 0 rfl) ?_
    refine k_get (ci := 8) (C := R_M) (T := T_M) (N := 32) hx hb hts (fun w q => gG_in (inG_M w q)) hown hK hW.1 27 rfl rfl 0 (by decide) (hts _ (gG_in mw_747)) rfl dM_before_33 ?_
    obtain ⟨q2, h⟩ := h
    obtain ⟨ht, hf⟩ := h
    refine ki_if_le (tgt := 43) hx hb dM_before_36 (by decide) q2 (fun c1 => ?_) (fun c1 => ?_)
    · have h := ht c1
      refine lv_aload_n hx hb dM_before_43 rfl (lv_at hl 0 rfl) ?_
      refine lv_iload_n hx hb dM_before_44 rfl (lv_at hl 1 rfl) ?_
      obtain ⟨P1, g1, h⟩ := h
      refine kc_vp (As := [.int (iI p0)]) (rest := []) (ci := 8) (q0 := 27) S (c_M_beforeTurn l dC dI ad kc nn s1 p0 g1) (cwV 1 hts (gV mw_899 mw_901 ps_20 mw_10 k_M_beforeTurn) rfl rfl rfl (by decide +kernel) ⟨Nat.le_of_ble_eq_true rfl, Nat.le_of_ble_eq_true rfl⟩) hK hN hW.1 rfl rfl rfl hl.1 rfl (Nat.le_of_ble_eq_true rfl) dM_before_45 ⟨Nat.zero_le _, Nat.zero_le _⟩ (fun r1 hp => ?_)
      have h := h r1 hp
      exact k_iret hx hb hr hlocks hW dM_before_48 h
    · have h := hf c1
      refine lv_iconst (v := iI 0) hx hb dM_before_39 rfl ?_
      refine lv_goto (tgt := 48) hx hb dM_before_40 (by decide) ?_
      exact k_iret hx hb hr hlocks hW dM_before_48 h
  obtain ⟨ht, hf⟩ := h
  refine ki_if_ne (tgt := 12) hx hb dM_before_5 (by decide) q1 (fun c2 => ?_) (fun c2 => ?_)
  · have h := ht c2
    refine lv_iload_n hx hb dM_before_12 rfl (lv_at hl 1 rfl) ?_
    refine lv_iconst (v := iI 0) hx hb dM_before_13 rfl ?_
    refine lv_aload_n hx hb dM_before_14 rfl (lv_at hl 0 rfl) ?_
    refine k_get (ci := 8) (C := R_M) (T := T_M) (N := 32) hx hb hts (fun w q => gG_in (inG_M w q)) hown hK hW.1 27 rfl rfl 11 (by decide) (hts _ (gG_in mw_758)) rfl dM_before_15 ?_
    obtain ⟨P2, g2, h⟩ := h
    refine kc_sp (As := [.int (iI p0), .int (iI 0), .int (iI (σ 27 11))]) (rest := [.ref (ad 27)]) S (c_M_isIn l dC dI (tyC kc) (wC ad kc nn) nn σ p0 0 (σ 27 11) g2) (cwS 3 hts (gS mw_852 mw_853 mw_10 k_M_isIn) rfl rfl rfl (by decide +kernel) ⟨Nat.le_of_ble_eq_true rfl, Nat.le_of_ble_eq_true rfl⟩) hK hN hW.1 rfl hl.1 rfl (Nat.le_of_ble_eq_true rfl) dM_before_18 ⟨Nat.zero_le _, Nat.zero_le _⟩ (fun r2 hp => ?_)
    have h := h r2 hp
    obtain ⟨q3, h⟩ := h
    obtain ⟨ht, hf⟩ := h
    refine ki_if_eq (tgt := 28) hx hb dM_before_21 (by decide) q3 (fun c3 => ?_) (fun c3 => ?_)
    · have h := ht c3
      refine lv_iconst (v := iI 2) hx hb dM_before_28 rfl ?_
      exact jW1 2 _ _ ls hW (lv_sub hl [0, 1] rfl) h
    · have h := hf c3
      refine lv_iconst (v := iI 0) hx hb dM_before_24 rfl ?_
      refine lv_goto (tgt := 29) hx hb dM_before_25 (by decide) ?_
      exact jW1 0 _ _ ls hW (lv_sub hl [0, 1] rfl) h
  · have h := hf c2
    refine lv_iconst (v := iI 1) hx hb dM_before_8 rfl ?_
    refine lv_goto (tgt := 29) hx hb dM_before_9 (by decide) ?_
    exact jW1 1 _ _ ls hW (lv_sub hl [0, 1] rfl) h
abbrev rm_M_fault : Room := { frames := 1, cells := 0, slots := 0, locals := 22 }
set_option maxHeartbeats 4000000 in
set_option maxRecDepth 100000 in
theorem c_M_fault (l : Launch) (dC : Nat → ClassId) (dI : Nat → Nat → Nat) (ad : Nat → Nat) (kc : Nat → ClassId) (nn : Nat → Nat) (σ : kM) (p0 : Int) (p1 : Int) (p2 : Int) {P : Int → kM → Prop} (h : wp_M_fault nn σ p0 p1 p2 P) : kMi l y_M_fault ws_M_fault rm_M_fault (dC, dI) vwC (tyC kc) (wC ad kc nn) nsG σ [.ref (ad 27), .int (iI p0), .int (iI p1), .int (iI p2)] P := by
  intro sz
  refine k_enter (cc := b_M_fault) (maxL := 4) (ret := (some .int)) (by decide) rfl (Nat.le_of_ble_eq_true rfl) ?_
  intro p e s m below meth c ls S hr hlocks hsz hA hW hK hN hl
  generalize va_A ((wC ad kc nn) σ) sz = A at hA hW ⊢
  generalize ([.ref (ad 27), .int (iI p0), .int (iI p1), .int (iI p2)] : List Value).toArray = args at S ⊢
  obtain ⟨hx, hb, hml, hown, hts⟩ := id S
  have hl : lv_has ls 4 [(0, .ref (ad 27)), (1, .int (iI p0)), (2, .int (iI p1)), (3, .int (iI p2))] := hl
  unfold wp_M_fault at h
  refine lv_aload_n hx hb dM_fault_0 rfl (lv_at hl 0 rfl) ?_
  refine lv_iload_n hx hb dM_fault_1 rfl (lv_at hl 1 rfl) ?_
  refine lv_iconst (v := iI 0) hx hb dM_fault_2 rfl ?_
  refine lv_sipush (v := iI 359) hx hb dM_fault_3 (by decide) ?_
  obtain ⟨P1, g1, h⟩ := h
  refine kc_sp (As := [.int (iI p0), .int (iI 0), .int (iI 359)]) (rest := [.ref (ad 27)]) S (c_M_isIn l dC dI (tyC kc) (wC ad kc nn) nn σ p0 0 359 g1) (cwS 3 hts (gS mw_852 mw_853 mw_10 k_M_isIn) rfl rfl rfl (by decide +kernel) ⟨Nat.le_of_ble_eq_true rfl, Nat.le_of_ble_eq_true rfl⟩) hK hN hW.1 rfl hl.1 rfl (Nat.le_of_ble_eq_true rfl) dM_fault_6 ⟨Nat.zero_le _, Nat.zero_le _⟩ (fun r1 hp => ?_)
  have h := h r1 hp
  obtain ⟨q1, h⟩ := h
  have jW1 : ∀ (v1 : Int) (H : Heap) (locs : List Loc) (ls : Array Slot), kW (dC, dI) vwC A s.heap (wC ad kc nn σ) H locs → lv_has ls 4 [(0, .ref (ad 27)), (1, .int (iI p0)), (2, .int (iI p1)), (3, .int (iI p2))] → jn_M_fault_50 nn p0 p1 p2 σ P v1 → W p l e (headSpec ws_M_fault rm_M_fault).room s m args below meth c H locs 0 0 (MQ below (kQi (dC, dI) vwC (wC ad kc nn) P A) args s 0 0 A) (F0 m 50 ls [.int (iI v1), .ref (ad 27)]) := by
    intro v1 H locs ls hW hl h
    unfold jn_M_fault_50 at h
    obtain ⟨s1, es1⟩ : ∃ z : kM, z = va_up σ 27 (va_up (σ 27) 0 v1) := ⟨_, rfl⟩
    refine k_put (ty := .int) (ws' := wC ad kc nn s1) (ci := 8) (C := R_M) (T := T_M) (N := 32) hx hb hts (fun w q => gG_in (inG_M w q)) ty_M tk_M nm_M hown hK hW 27 rfl rfl 0 (by decide) (hts _ (gG_in mw_747)) rfl (by decide +kernel) rfl rfl (Nat.le_of_ble_eq_true rfl) (by rw [es1]; exact wC_p27_0 ..) dM_fault_50 (fun H locs hW => ?_)
    have h := h s1 es1
    refine lv_aload_n hx hb dM_fault_53 rfl (lv_at hl 0 rfl) ?_
    refine k_get (ci := 8) (C := R_M) (T := T_M) (N := 32) hx hb hts (fun w q => gG_in (inG_M w q)) hown hK hW.1 27 rfl rfl 0 (by decide) (hts _ (gG_in mw_747)) rfl dM_fault_54 ?_
    obtain ⟨q2, h⟩ := h
    obtain ⟨ht, hf⟩ := h
    refine ki_if_le (tgt := 62) hx hb dM_fault_57 (by decide) q2 (fun c1 => ?_) (fun c1 => ?_)
    · have h := ht c1
      refine lv_aload_n hx hb dM_fault_62 rfl (lv_at hl 0 rfl) ?_
      refine k_get (ci := 8) (C := R_M) (T := T_M) (N := 32) hx hb hts (fun w q => gG_in (inG_M w q)) hown hK hW.1 27 rfl rfl 13 (by decide) (hts _ (gG_in mw_760)) rfl dM_fault_63 ?_
      refine lv_aload_n hx hb dM_fault_66 rfl (lv_at hl 0 rfl) ?_
      refine k_get (ci := 8) (C := R_M) (T := T_M) (N := 32) hx hb hts (fun w q => gG_in (inG_M w q)) hown hK hW.1 27 rfl rfl 16 (by decide) (hts _ (gG_in mw_763)) rfl dM_fault_67 ?_
      refine lv_iload_n hx hb dM_fault_70 rfl (lv_at hl 1 rfl) ?_
      obtain ⟨q3, h⟩ := h
      obtain ⟨s2, es2⟩ : ∃ z : kM, z = va_up s1 31 (va_up (s1 31) (s1 27 16).toNat p0) := ⟨_, rfl⟩
      refine k_iast (ws' := wC ad kc nn s2) hx hb hK hW 31 22 (s1 31) rfl rfl q3 (by rw [es2]; exact wC_a31 ..) dM_fault_71 (fun H locs hW => ?_)
      have h := h s2 es2
      refine lv_aload_n hx hb dM_fault_72 rfl (lv_at hl 0 rfl) ?_
      refine k_get (ci := 8) (C := R_M) (T := T_M) (N := 32) hx hb hts (fun w q => gG_in (inG_M w q)) hown hK hW.1 27 rfl rfl 14 (by decide) (hts _ (gG_in mw_761)) rfl dM_fault_73 ?_
      refine lv_aload_n hx hb dM_fault_76 rfl (lv_at hl 0 rfl) ?_
      refine k_get (ci := 8) (C := R_M) (T := T_M) (N := 32) hx hb hts (fun w q => gG_in (inG_M w q)) hown hK hW.1 27 rfl rfl 16 (by decide) (hts _ (gG_in mw_763)) rfl dM_fault_77 ?_
      refine lv_iload_n hx hb dM_fault_80 rfl (lv_at hl 2 rfl) ?_
      obtain ⟨q4, h⟩ := h
      obtain ⟨s3, es3⟩ : ∃ z : kM, z = va_up s2 32 (va_up (s2 32) (s2 27 16).toNat p1) := ⟨_, rfl⟩
      refine k_iast (ws' := wC ad kc nn s3) hx hb hK hW 32 23 (s2 32) rfl rfl q4 (by rw [es3]; exact wC_a32 ..) dM_fault_81 (fun H locs hW => ?_)
      have h := h s3 es3
      refine lv_aload_n hx hb dM_fault_82 rfl (lv_at hl 0 rfl) ?_
      refine k_get (ci := 8) (C := R_M) (T := T_M) (N := 32) hx hb hts (fun w q => gG_in (inG_M w q)) hown hK hW.1 27 rfl rfl 15 (by decide) (hts _ (gG_in mw_762)) rfl dM_fault_83 ?_
      refine lv_aload_n hx hb dM_fault_86 rfl (lv_at hl 0 rfl) ?_
      refine k_get (ci := 8) (C := R_M) (T := T_M) (N := 32) hx hb hts (fun w q => gG_in (inG_M w q)) hown hK hW.1 27 rfl rfl 16 (by decide) (hts _ (gG_in mw_763)) rfl dM_fault_87 ?_
      refine lv_iload_n hx hb dM_fault_90 rfl (lv_at hl 3 rfl) ?_
      obtain ⟨q5, h⟩ := h
      obtain ⟨s4, es4⟩ : ∃ z : kM, z = va_up s3 33 (va_up (s3 33) (s3 27 16).toNat p2) := ⟨_, rfl⟩
      refine k_iast (ws' := wC ad kc nn s4) hx hb hK hW 33 24 (s3 33) rfl rfl q5 (by rw [es4]; exact wC_a33 ..) dM_fault_91 (fun H locs hW => ?_)
      have h := h s4 es4
      refine lv_aload_n hx hb dM_fault_92 rfl (lv_at hl 0 rfl) ?_
      refine lv_dup hx hb dM_fault_93 rfl ?_
      refine k_get (ci := 8) (C := R_M) (T := T_M) (N := 32) hx hb hts (fun w q => gG_in (inG_M w q)) hown hK hW.1 27 rfl rfl 16 (by decide) (hts _ (gG_in mw_763)) rfl dM_fault_94 ?_
      refine lv_iconst (v := iI 1) hx hb dM_fault_97 rfl ?_
      refine ki_add hx hb dM_fault_98 ?_
      obtain ⟨s5, es5⟩ : ∃ z : kM, z = va_up s4 27 (va_up (s4 27) 16 ((s4 27 16) + 1)) := ⟨_, rfl⟩
      refine k_put (ty := .int) (ws' := wC ad kc nn s5) (ci := 8) (C := R_M) (T := T_M) (N := 32) hx hb hts (fun w q => gG_in (inG_M w q)) ty_M tk_M nm_M hown hK hW 27 rfl rfl 16 (by decide) (hts _ (gG_in mw_763)) rfl (by decide +kernel) rfl rfl (Nat.le_of_ble_eq_true rfl) (by rw [es5]; exact wC_p27_16 ..) dM_fault_99 (fun H locs hW => ?_)
      have h := h s5 es5
      refine lv_aload_n hx hb dM_fault_102 rfl (lv_at hl 0 rfl) ?_
      refine lv_iconst (v := iI 0) hx hb dM_fault_103 rfl ?_
      obtain ⟨s6, es6⟩ : ∃ z : kM, z = va_up s5 27 (va_up (s5 27) 21 0) := ⟨_, rfl⟩
      refine k_put (ty := .boolean) (ws' := wC ad kc nn s6) (ci := 8) (C := R_M) (T := T_M) (N := 32) hx hb hts (fun w q => gG_in (inG_M w q)) ty_M tk_M nm_M hown hK hW 27 rfl rfl 21 (by decide) (hts _ (gG_in mw_768)) rfl (by decide +kernel) (narZ (by decide)) (fitZ (by decide)) (Nat.le_of_ble_eq_true rfl) (by rw [es6]; exact wC_p27_21 ..) dM_fault_104 (fun H locs hW => ?_)
      have h := h s6 es6
      refine lv_aload_n hx hb dM_fault_107 rfl (lv_at hl 0 rfl) ?_
      refine k_get (ci := 8) (C := R_M) (T := T_M) (N := 32) hx hb hts (fun w q => gG_in (inG_M w q)) hown hK hW.1 27 rfl rfl 16 (by decide) (hts _ (gG_in mw_763)) rfl dM_fault_108 ?_
      refine lv_iconst (v := iI 1) hx hb dM_fault_111 rfl ?_
      refine ki_sub hx hb dM_fault_112 ?_
      exact k_iret hx hb hr hlocks hW dM_fault_113 h
    · have h := hf c1
      refine lv_iconst (v := iI 0) hx hb dM_fault_60 rfl ?_
      exact k_iret hx hb hr hlocks hW dM_fault_61 h
  obtain ⟨ht, hf⟩ := h
  refine ki_if_eq (tgt := 32) hx hb dM_fault_9 (by decide) q1 (fun c2 => ?_) (fun c2 => ?_)
  · have h := ht c2
    refine lv_iconst (v := iI 1) hx hb dM_fault_32 rfl ?_
    refine lv_goto (tgt := 50) hx hb dM_fault_33 (by decide) ?_
    exact jW1 1 _ _ ls hW (lv_sub hl [0, 1, 2, 3] rfl) h
  · have h := hf c2
    refine lv_iload_n hx hb dM_fault_12 rfl (lv_at hl 2 rfl) ?_
    refine lv_iconst (v := iI 0) hx hb dM_fault_13 rfl ?_
    refine lv_sipush (v := iI 1000) hx hb dM_fault_14 (by decide) ?_
    obtain ⟨P2, g2, h⟩ := h
    refine kc_sp (As := [.int (iI p1), .int (iI 0), .int (iI 1000)]) (rest := [.ref (ad 27)]) S (c_M_isIn l dC dI (tyC kc) (wC ad kc nn) nn σ p1 0 1000 g2) (cwS 3 hts (gS mw_852 mw_853 mw_10 k_M_isIn) rfl rfl rfl (by decide +kernel) ⟨Nat.le_of_ble_eq_true rfl, Nat.le_of_ble_eq_true rfl⟩) hK hN hW.1 rfl hl.1 rfl (Nat.le_of_ble_eq_true rfl) dM_fault_17 ⟨Nat.zero_le _, Nat.zero_le _⟩ (fun r2 hp => ?_)
    have h := h r2 hp
    obtain ⟨q6, h⟩ := h
    obtain ⟨ht, hf⟩ := h
    refine ki_if_eq (tgt := 32) hx hb dM_fault_20 (by decide) q6 (fun c3 => ?_) (fun c3 => ?_)
    · have h := ht c3
      refine lv_iconst (v := iI 1) hx hb dM_fault_32 rfl ?_
      refine lv_goto (tgt := 50) hx hb dM_fault_33 (by decide) ?_
      exact jW1 1 _ _ ls hW (lv_sub hl [0, 1, 2, 3] rfl) h
    · have h := hf c3
      refine lv_iload_n hx hb dM_fault_23 rfl (lv_at hl 3 rfl) ?_
      refine lv_iconst (v := iI 0) hx hb dM_fault_24 rfl ?_
      refine lv_iconst (v := iI 3) hx hb dM_fault_25 rfl ?_
      obtain ⟨P3, g3, h⟩ := h
      refine kc_sp (As := [.int (iI p2), .int (iI 0), .int (iI 3)]) (rest := [.ref (ad 27)]) S (c_M_isIn l dC dI (tyC kc) (wC ad kc nn) nn σ p2 0 3 g3) (cwS 3 hts (gS mw_852 mw_853 mw_10 k_M_isIn) rfl rfl rfl (by decide +kernel) ⟨Nat.le_of_ble_eq_true rfl, Nat.le_of_ble_eq_true rfl⟩) hK hN hW.1 rfl hl.1 rfl (Nat.le_of_ble_eq_true rfl) dM_fault_26 ⟨Nat.zero_le _, Nat.zero_le _⟩ (fun r3 hp => ?_)
      have h := h r3 hp
      obtain ⟨q7, h⟩ := h
      obtain ⟨ht, hf⟩ := h
      refine ki_if_ne (tgt := 36) hx hb dM_fault_29 (by decide) q7 (fun c4 => ?_) (fun c4 => ?_)
      · have h := ht c4
        refine lv_aload_n hx hb dM_fault_36 rfl (lv_at hl 0 rfl) ?_
        refine k_get (ci := 8) (C := R_M) (T := T_M) (N := 32) hx hb hts (fun w q => gG_in (inG_M w q)) hown hK hW.1 27 rfl rfl 16 (by decide) (hts _ (gG_in mw_763)) rfl dM_fault_37 ?_
        refine lv_bipush (v := iI 16) hx hb dM_fault_40 (by decide) ?_
        obtain ⟨q8, h⟩ := h
        obtain ⟨ht, hf⟩ := h
        refine ki_icmp_ne (tgt := 49) hx hb dM_fault_42 (by decide) q8 (by constructor <;> decide) (fun c5 => ?_) (fun c5 => ?_)
        · have h := ht c5
          refine lv_iconst (v := iI 0) hx hb dM_fault_49 rfl ?_
          exact jW1 0 _ _ ls hW (lv_sub hl [0, 1, 2, 3] rfl) h
        · have h := hf c5
          refine lv_iconst (v := iI 2) hx hb dM_fault_45 rfl ?_
          refine lv_goto (tgt := 50) hx hb dM_fault_46 (by decide) ?_
          exact jW1 2 _ _ ls hW (lv_sub hl [0, 1, 2, 3] rfl) h
      · have h := hf c4
        refine lv_iconst (v := iI 1) hx hb dM_fault_32 rfl ?_
        refine lv_goto (tgt := 50) hx hb dM_fault_33 (by decide) ?_
        exact jW1 1 _ _ ls hW (lv_sub hl [0, 1, 2, 3] rfl) h
abbrev rm_M_placeOf : Room := { frames := 1, cells := 0, slots := 0, locals := 23 }
set_option maxHeartbeats 4000000 in
set_option maxRecDepth 100000 in
theorem c_M_placeOf (l : Launch) (dC : Nat → ClassId) (dI : Nat → Nat → Nat) (ad : Nat → Nat) (kc : Nat → ClassId) (nn : Nat → Nat) (σ : kM) (p0 : Int) {P : Int → Prop} (h : wp_M_placeOf nn σ p0 P) : kMp l y_M_placeOf ws_M_placeOf rm_M_placeOf (dC, dI) vwC (tyC kc) (wC ad kc nn) nsG σ [.ref (ad 27), .int (iI p0)] P := by
  refine k_enterP (cc := b_M_placeOf) (maxL := 3) (ret := (some .int)) (by decide) rfl (Nat.le_of_ble_eq_true rfl) ?_
  intro p e s m below meth c ls S hr hlocks hP hK hN hl
  generalize ([.ref (ad 27), .int (iI p0)] : List Value).toArray = args at S ⊢
  obtain ⟨hx, hb, hml, hown, hts⟩ := id S
  have hl : lv_has ls 3 [(0, .ref (ad 27)), (1, .int (iI p0))] := hl
  unfold wp_M_placeOf at h
  refine lv_aload_n hx hb dM_placeOf_0 rfl (lv_at hl 0 rfl) ?_
  refine k_get (ci := 8) (C := R_M) (T := T_M) (N := 32) hx hb hts (fun w q => gG_in (inG_M w q)) hown hK hP 27 rfl rfl 14 (by decide) (hts _ (gG_in mw_761)) rfl dM_placeOf_1 ?_
  refine lv_iload_n hx hb dM_placeOf_4 rfl (lv_at hl 1 rfl) ?_
  obtain ⟨q1, h⟩ := h
  refine k_iald hx hb hK hP 32 23 (σ 32) rfl rfl q1 dM_placeOf_5 ?_
  refine lv_aload_n hx hb dM_placeOf_6 rfl (lv_at hl 0 rfl) ?_
  refine k_get (ci := 8) (C := R_M) (T := T_M) (N := 32) hx hb hts (fun w q => gG_in (inG_M w q)) hown hK hP 27 rfl rfl 12 (by decide) (hts _ (gG_in mw_759)) rfl dM_placeOf_7 ?_
  obtain ⟨q2, h⟩ := h
  obtain ⟨q3, h⟩ := h
  obtain ⟨ht, hf⟩ := h
  refine ki_icmp_gt (tgt := 36) hx hb dM_placeOf_10 (by decide) q2 q3 (fun c1 => ?_) (fun c1 => ?_)
  · have h := ht c1
    refine lv_iconst (v := iI (-1)) hx hb dM_placeOf_36 rfl ?_
    exact k_iretP hx hb hr hlocks dM_placeOf_37 h
  · have h := hf c1
    refine lv_aload_n hx hb dM_placeOf_13 rfl (lv_at hl 0 rfl) ?_
    refine k_get (ci := 8) (C := R_M) (T := T_M) (N := 32) hx hb hts (fun w q => gG_in (inG_M w q)) hown hK hP 27 rfl rfl 14 (by decide) (hts _ (gG_in mw_761)) rfl dM_placeOf_14 ?_
    refine lv_iload_n hx hb dM_placeOf_17 rfl (lv_at hl 1 rfl) ?_
    obtain ⟨q4, h⟩ := h
    refine k_iald hx hb hK hP 32 23 (σ 32) rfl rfl q4 dM_placeOf_18 ?_
    refine lv_aload_n hx hb dM_placeOf_19 rfl (lv_at hl 0 rfl) ?_
    refine k_get (ci := 8) (C := R_M) (T := T_M) (N := 32) hx hb hts (fun w q => gG_in (inG_M w q)) hown hK hP 27 rfl rfl 12 (by decide) (hts _ (gG_in mw_759)) rfl dM_placeOf_20 ?_
    refine lv_aload_n hx hb dM_placeOf_23 rfl (lv_at hl 0 rfl) ?_
    refine k_get (ci := 8) (C := R_M) (T := T_M) (N := 32) hx hb hts (fun w q => gG_in (inG_M w q)) hown hK hP 27 rfl rfl 11 (by decide) (hts _ (gG_in mw_758)) rfl dM_placeOf_24 ?_
    refine lv_aload_n hx hb dM_placeOf_27 rfl (lv_at hl 0 rfl) ?_
    refine k_get (ci := 8) (C := R_M) (T := T_M) (N := 32) hx hb hts (fun w q => gG_in (inG_M w q)) hown hK hP 27 rfl rfl 10 (by decide) (hts _ (gG_in mw_757)) rfl dM_placeOf_28 ?_
    refine ki_mul hx hb dM_placeOf_31 ?_
    refine ki_sub hx hb dM_placeOf_32 ?_
    obtain ⟨q5, h⟩ := h
    obtain ⟨q6, h⟩ := h
    obtain ⟨ht, hf⟩ := h
    refine ki_icmp_gt (tgt := 38) hx hb dM_placeOf_33 (by decide) q5 q6 (fun c2 => ?_) (fun c2 => ?_)
    · have h := ht c2
      refine lv_aload_n hx hb dM_placeOf_38 rfl (lv_at hl 0 rfl) ?_
      refine k_get (ci := 8) (C := R_M) (T := T_M) (N := 32) hx hb hts (fun w q => gG_in (inG_M w q)) hown hK hP 27 rfl rfl 12 (by decide) (hts _ (gG_in mw_759)) rfl dM_placeOf_39 ?_
      refine lv_aload_n hx hb dM_placeOf_42 rfl (lv_at hl 0 rfl) ?_
      refine k_get (ci := 8) (C := R_M) (T := T_M) (N := 32) hx hb hts (fun w q => gG_in (inG_M w q)) hown hK hP 27 rfl rfl 14 (by decide) (hts _ (gG_in mw_761)) rfl dM_placeOf_43 ?_
      refine lv_iload_n hx hb dM_placeOf_46 rfl (lv_at hl 1 rfl) ?_
      obtain ⟨q7, h⟩ := h
      refine k_iald hx hb hK hP 32 23 (σ 32) rfl rfl q7 dM_placeOf_47 ?_
      refine ki_sub hx hb dM_placeOf_48 ?_
      refine lv_aload_n hx hb dM_placeOf_49 rfl (lv_at hl 0 rfl) ?_
      refine k_get (ci := 8) (C := R_M) (T := T_M) (N := 32) hx hb hts (fun w q => gG_in (inG_M w q)) hown hK hP 27 rfl rfl 10 (by decide) (hts _ (gG_in mw_757)) rfl dM_placeOf_50 ?_
      obtain ⟨q8, h⟩ := h
      refine ki_div hx hb dM_placeOf_53 q8 ?_
      refine ki_nm (fun v1 ev1 => ?_)
      have h := h v1 ev1
      refine lv_istore_n (lv' := [(2, .int (iI v1)), (0, .ref (ad 27)), (1, .int (iI p0))]) hx hb dM_placeOf_54 rfl hl (by decide) rfl (fun ls hl => ?_)
      refine lv_aload_n hx hb dM_placeOf_55 rfl (lv_at hl 1 rfl) ?_
      refine lv_iload_n hx hb dM_placeOf_56 rfl (lv_at hl 0 rfl) ?_
      obtain ⟨P1, g1, h⟩ := h
      refine kc_vp (As := [.int (iI v1)]) (rest := []) (ci := 8) (q0 := 27) S (c_M_beforeTurn l dC dI ad kc nn σ v1 g1) (cwV 1 hts (gV mw_899 mw_901 ps_20 mw_10 k_M_beforeTurn) rfl rfl rfl (by decide +kernel) ⟨Nat.le_of_ble_eq_true rfl, Nat.le_of_ble_eq_true rfl⟩) hK hN hP rfl rfl rfl hl.1 rfl (Nat.le_of_ble_eq_true rfl) dM_placeOf_57 ⟨Nat.zero_le _, Nat.zero_le _⟩ (fun r1 hp => ?_)
      have h := h r1 hp
      refine lv_aload_n hx hb dM_placeOf_60 rfl (lv_at hl 1 rfl) ?_
      refine k_get (ci := 8) (C := R_M) (T := T_M) (N := 32) hx hb hts (fun w q => gG_in (inG_M w q)) hown hK hP 27 rfl rfl 12 (by decide) (hts _ (gG_in mw_759)) rfl dM_placeOf_61 ?_
      refine lv_iload_n hx hb dM_placeOf_64 rfl (lv_at hl 0 rfl) ?_
      refine lv_aload_n hx hb dM_placeOf_65 rfl (lv_at hl 1 rfl) ?_
      refine k_get (ci := 8) (C := R_M) (T := T_M) (N := 32) hx hb hts (fun w q => gG_in (inG_M w q)) hown hK hP 27 rfl rfl 10 (by decide) (hts _ (gG_in mw_757)) rfl dM_placeOf_66 ?_
      refine ki_mul hx hb dM_placeOf_69 ?_
      refine ki_sub hx hb dM_placeOf_70 ?_
      refine lv_sipush (v := iI 710) hx hb dM_placeOf_71 (by decide) ?_
      refine ki_mul hx hb dM_placeOf_74 ?_
      refine lv_bipush (v := iI 113) hx hb dM_placeOf_75 (by decide) ?_
      obtain ⟨q9, h⟩ := h
      refine ki_div hx hb dM_placeOf_77 ⟨q9.1, by constructor <;> decide, q9.2, by decide⟩ ?_
      refine lv_aload_n hx hb dM_placeOf_78 rfl (lv_at hl 1 rfl) ?_
      refine k_get (ci := 8) (C := R_M) (T := T_M) (N := 32) hx hb hts (fun w q => gG_in (inG_M w q)) hown hK hP 27 rfl rfl 13 (by decide) (hts _ (gG_in mw_760)) rfl dM_placeOf_79 ?_
      refine lv_iload_n hx hb dM_placeOf_82 rfl (lv_at hl 2 rfl) ?_
      obtain ⟨q10, h⟩ := h
      refine k_iald hx hb hK hP 31 22 (σ 31) rfl rfl q10 dM_placeOf_83 ?_
      refine ki_mul hx hb dM_placeOf_84 ?_
      refine lv_sipush (v := iI 360) hx hb dM_placeOf_85 (by decide) ?_
      obtain ⟨q11, h⟩ := h
      refine ki_div hx hb dM_placeOf_88 ⟨q11.1, by constructor <;> decide, q11.2, by decide⟩ ?_
      refine ki_add hx hb dM_placeOf_89 ?_
      exact k_iretP hx hb hr hlocks dM_placeOf_90 h
    · have h := hf c2
      refine lv_iconst (v := iI (-1)) hx hb dM_placeOf_36 rfl ?_
      exact k_iretP hx hb hr hlocks dM_placeOf_37 h
abbrev rm_M_unrolled : Room := { frames := 2, cells := 0, slots := 0, locals := 45 }
set_option maxHeartbeats 4000000 in
set_option maxRecDepth 100000 in
theorem c_M_unrolled (l : Launch) (dC : Nat → ClassId) (dI : Nat → Nat → Nat) (ad : Nat → Nat) (kc : Nat → ClassId) (nn : Nat → Nat) (σ : kM) (p0 : Int) {P : Int → kM → Prop} (h : wp_M_unrolled nn σ p0 P) : kMi l y_M_unrolled ws_M_unrolled rm_M_unrolled (dC, dI) vwC (tyC kc) (wC ad kc nn) nsG σ [.ref (ad 27), .int (iI p0)] P := by
  intro sz
  refine k_enter (cc := b_M_unrolled) (maxL := 2) (ret := (some .int)) (by decide) rfl (Nat.le_of_ble_eq_true rfl) ?_
  intro p e s m below meth c ls S hr hlocks hsz hA hW hK hN hl
  generalize va_A ((wC ad kc nn) σ) sz = A at hA hW ⊢
  generalize ([.ref (ad 27), .int (iI p0)] : List Value).toArray = args at S ⊢
  obtain ⟨hx, hb, hml, hown, hts⟩ := id S
  have hl : lv_has ls 2 [(0, .ref (ad 27)), (1, .int (iI p0))] := hl
  unfold wp_M_unrolled at h
  refine lv_aload_n hx hb dM_unrolled_0 rfl (lv_at hl 0 rfl) ?_
  refine lv_iload_n hx hb dM_unrolled_1 rfl (lv_at hl 1 rfl) ?_
  refine lv_iconst (v := iI 0) hx hb dM_unrolled_2 rfl ?_
  refine lv_aload_n hx hb dM_unrolled_3 rfl (lv_at hl 0 rfl) ?_
  refine k_get (ci := 8) (C := R_M) (T := T_M) (N := 32) hx hb hts (fun w q => gG_in (inG_M w q)) hown hK hW.1 27 rfl rfl 16 (by decide) (hts _ (gG_in mw_763)) rfl dM_unrolled_4 ?_
  refine lv_iconst (v := iI 1) hx hb dM_unrolled_7 rfl ?_
  refine ki_sub hx hb dM_unrolled_8 ?_
  obtain ⟨P1, g1, h⟩ := h
  refine kc_sp (As := [.int (iI p0), .int (iI 0), .int (iI ((σ 27 16) - 1))]) (rest := [.ref (ad 27)]) S (c_M_isIn l dC dI (tyC kc) (wC ad kc nn) nn σ p0 0 ((σ 27 16) - 1) g1) (cwS 3 hts (gS mw_852 mw_853 mw_10 k_M_isIn) rfl rfl rfl (by decide +kernel) ⟨Nat.le_of_ble_eq_true rfl, Nat.le_of_ble_eq_true rfl⟩) hK hN hW.1 rfl hl.1 rfl (Nat.le_of_ble_eq_true rfl) dM_unrolled_9 ⟨Nat.zero_le _, Nat.zero_le _⟩ (fun r1 hp => ?_)
  have h := h r1 hp
  obtain ⟨q1, h⟩ := h
  have jW1 : ∀ (v1 : Int) (H : Heap) (locs : List Loc) (ls : Array Slot), kW (dC, dI) vwC A s.heap (wC ad kc nn σ) H locs → lv_has ls 2 [(0, .ref (ad 27)), (1, .int (iI p0))] → jn_M_unrolled_31 nn p0 σ P v1 → W p l e (headSpec ws_M_unrolled rm_M_unrolled).room s m args below meth c H locs 0 0 (MQ below (kQi (dC, dI) vwC (wC ad kc nn) P A) args s 0 0 A) (F0 m 31 ls [.int (iI v1), .ref (ad 27)]) := by
    intro v1 H locs ls hW hl h
    unfold jn_M_unrolled_31 at h
    obtain ⟨s1, es1⟩ : ∃ z : kM, z = va_up σ 27 (va_up (σ 27) 0 v1) := ⟨_, rfl⟩
    refine k_put (ty := .int) (ws' := wC ad kc nn s1) (ci := 8) (C := R_M) (T := T_M) (N := 32) hx hb hts (fun w q => gG_in (inG_M w q)) ty_M tk_M nm_M hown hK hW 27 rfl rfl 0 (by decide) (hts _ (gG_in mw_747)) rfl (by decide +kernel) rfl rfl (Nat.le_of_ble_eq_true rfl) (by rw [es1]; exact wC_p27_0 ..) dM_unrolled_31 (fun H locs hW => ?_)
    have h := h s1 es1
    refine lv_aload_n hx hb dM_unrolled_34 rfl (lv_at hl 0 rfl) ?_
    refine k_get (ci := 8) (C := R_M) (T := T_M) (N := 32) hx hb hts (fun w q => gG_in (inG_M w q)) hown hK hW.1 27 rfl rfl 0 (by decide) (hts _ (gG_in mw_747)) rfl dM_unrolled_35 ?_
    obtain ⟨q2, h⟩ := h
    obtain ⟨ht, hf⟩ := h
    refine ki_if_le (tgt := 45) hx hb dM_unrolled_38 (by decide) q2 (fun c1 => ?_) (fun c1 => ?_)
    · have h := ht c1
      refine lv_aload_n hx hb dM_unrolled_45 rfl (lv_at hl 0 rfl) ?_
      refine lv_iload_n hx hb dM_unrolled_46 rfl (lv_at hl 1 rfl) ?_
      obtain ⟨P2, g2, h⟩ := h
      refine kc_vp (As := [.int (iI p0)]) (rest := []) (ci := 8) (q0 := 27) S (c_M_placeOf l dC dI ad kc nn s1 p0 g2) (cwV 1 hts (gV mw_911 mw_913 ps_21 mw_10 k_M_placeOf) rfl rfl rfl (by decide +kernel) ⟨Nat.le_of_ble_eq_true rfl, Nat.le_of_ble_eq_true rfl⟩) hK hN hW.1 rfl rfl rfl hl.1 rfl (Nat.le_of_ble_eq_true rfl) dM_unrolled_47 ⟨Nat.zero_le _, Nat.zero_le _⟩ (fun r2 hp => ?_)
      have h := h r2 hp
      exact k_iret hx hb hr hlocks hW dM_unrolled_50 h
    · have h := hf c1
      refine lv_iconst (v := iI 0) hx hb dM_unrolled_41 rfl ?_
      refine lv_goto (tgt := 50) hx hb dM_unrolled_42 (by decide) ?_
      exact k_iret hx hb hr hlocks hW dM_unrolled_50 h
  obtain ⟨ht, hf⟩ := h
  refine ki_if_ne (tgt := 19) hx hb dM_unrolled_12 (by decide) q1 (fun c2 => ?_) (fun c2 => ?_)
  · have h := ht c2
    refine lv_aload_n hx hb dM_unrolled_19 rfl (lv_at hl 0 rfl) ?_
    refine k_get (ci := 8) (C := R_M) (T := T_M) (N := 32) hx hb hts (fun w q => gG_in (inG_M w q)) hown hK hW.1 27 rfl rfl 9 (by decide) (hts _ (gG_in mw_756)) rfl dM_unrolled_20 ?_
    obtain ⟨q3, h⟩ := h
    obtain ⟨ht, hf⟩ := h
    refine ki_if_eq (tgt := 30) hx hb dM_unrolled_23 (by decide) q3 (fun c3 => ?_) (fun c3 => ?_)
    · have h := ht c3
      refine lv_iconst (v := iI 2) hx hb dM_unrolled_30 rfl ?_
      exact jW1 2 _ _ ls hW (lv_sub hl [0, 1] rfl) h
    · have h := hf c3
      refine lv_iconst (v := iI 0) hx hb dM_unrolled_26 rfl ?_
      refine lv_goto (tgt := 31) hx hb dM_unrolled_27 (by decide) ?_
      exact jW1 0 _ _ ls hW (lv_sub hl [0, 1] rfl) h
  · have h := hf c2
    refine lv_iconst (v := iI 1) hx hb dM_unrolled_15 rfl ?_
    refine lv_goto (tgt := 31) hx hb dM_unrolled_16 (by decide) ?_
    exact jW1 1 _ _ ls hW (lv_sub hl [0, 1] rfl) h
