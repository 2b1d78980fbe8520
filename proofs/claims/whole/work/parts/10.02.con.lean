abbrev rm_A_exactRoom : Room := { frames := 4, cells := 0, slots := 0, locals := 94 }
set_option maxHeartbeats 4000000 in
set_option maxRecDepth 100000 in
theorem c_A_exactRoom (l : Launch) (dC : Nat → ClassId) (dI : Nat → Nat → Nat) (ad : Nat → Nat) (kc : Nat → ClassId) (nn : Nat → Nat) (σ : kM) (p0 : Int) (p1 : Int) (p2 : Int) (p3 : Int) {P : Int → kM → Prop} (h : wp_A_exactRoom nn σ p0 p1 p2 p3 P) : kMi l y_A_exactRoom ws_A_exactRoom rm_A_exactRoom (dC, dI) vwC (tyC kc) (wC ad kc nn) nsG σ [.ref (ad 2), .int (iI p0), .int (iI p1), .int (iI p2), .int (iI p3)] P := by
  intro sz
  refine k_enter (cc := b_A_exactRoom) (maxL := 5) (ret := (some .int)) (by decide) rfl (Nat.le_of_ble_eq_true rfl) ?_
  intro p e s m below meth c ls S hr hlocks hsz hA hW hK hN hl
  generalize va_A ((wC ad kc nn) σ) sz = A at hA hW ⊢
  generalize ([.ref (ad 2), .int (iI p0), .int (iI p1), .int (iI p2), .int (iI p3)] : List Value).toArray = args at S ⊢
  obtain ⟨hx, hb, hml, hown, hts⟩ := id S
  have hl : lv_has ls 5 [(0, .ref (ad 2)), (1, .int (iI p0)), (2, .int (iI p1)), (3, .int (iI p2)), (4, .int (iI p3))] := hl
  unfold wp_A_exactRoom at h
  refine lv_aload_n hx hb dA_exactRoom_0 rfl (lv_at hl 0 rfl) ?_
  refine k_get (ci := 2) (C := R_A) (T := T_A) (N := 6) hx hb hts (fun w q => gG_in (inG_A w q)) hown hK hW.1 2 rfl rfl 0 (by decide) (hts _ (gG_in mw_85)) rfl dA_exactRoom_1 ?_
  obtain ⟨P1, g1, h⟩ := h
  refine kc_vv (As := []) (rest := []) (ci := 1) (q0 := 1) S (c_S_measureWhatChanged l dC dI ad kc nn σ g1) (cwV 0 hts (gV mw_249 mw_250 mw_251 mw_2 k_S_measureWhatChanged) rfl rfl rfl (by decide +kernel) ⟨Nat.le_of_ble_eq_true rfl, Nat.le_of_ble_eq_true rfl⟩) hK hN hA hW (fun _ => rfl) rfl rfl rfl hl.1 rfl (Nat.le_of_ble_eq_true rfl) dA_exactRoom_4 ⟨Nat.zero_le _, Nat.zero_le _⟩ (fun s1 H locs hp hW => ?_)
  have h := h s1 hp
  refine lv_aload_n hx hb dA_exactRoom_7 rfl (lv_at hl 0 rfl) ?_
  refine lv_iconst (v := iI 0) hx hb dA_exactRoom_8 rfl ?_
  refine lv_iload_n hx hb dA_exactRoom_9 rfl (lv_at hl 1 rfl) ?_
  refine lv_iload_n hx hb dA_exactRoom_10 rfl (lv_at hl 2 rfl) ?_
  refine lv_iload_n hx hb dA_exactRoom_11 rfl (lv_at hl 3 rfl) ?_
  refine lv_iload hx hb dA_exactRoom_12 (lv_at hl 4 rfl) ?_
  obtain ⟨P2, g2, h⟩ := h
  refine kc_vp (As := [.int (iI 0), .int (iI p0), .int (iI p1), .int (iI p2), .int (iI p3)]) (rest := []) (ci := 2) (q0 := 2) S (c_A_roomAbove l dC dI ad kc nn s1 0 p0 p1 p2 p3 g2) (cwV 5 hts (gV mw_291 mw_293 ps_9 mw_4 k_A_roomAbove) rfl rfl rfl (by decide +kernel) ⟨Nat.le_of_ble_eq_true rfl, Nat.le_of_ble_eq_true rfl⟩) hK hN hW.1 rfl rfl rfl hl.1 rfl (Nat.le_of_ble_eq_true rfl) dA_exactRoom_14 ⟨Nat.zero_le _, Nat.zero_le _⟩ (fun r1 hp => ?_)
  have h := h r1 hp
  exact k_iret hx hb hr hlocks hW dA_exactRoom_17 h
abbrev rm_P_roomOf : Room := { frames := 6, cells := 0, slots := 0, locals := 118 }
set_option maxHeartbeats 4000000 in
set_option maxRecDepth 100000 in
theorem c_P_roomOf (l : Launch) (dC : Nat → ClassId) (dI : Nat → Nat → Nat) (ad : Nat → Nat) (kc : Nat → ClassId) (nn : Nat → Nat) (σ : kM) (p0 : Int) (p1 : Int) (p2 : Int) (p3 : Int) {P : Int → kM → Prop} (h : wp_P_roomOf nn σ p0 p1 p2 p3 P (fun _ _ => False)) : kMi l y_P_roomOf ws_P_roomOf rm_P_roomOf (dC, dI) vwC (tyC kc) (wC ad kc nn) nsG σ [.ref (ad 0), .int (iI p0), .int (iI p1), .int (iI p2), .int (iI p3)] P := by
  intro sz
  refine k_enter (cc := b_P_roomOf) (maxL := 5) (ret := (some .int)) (by decide) rfl (Nat.le_of_ble_eq_true rfl) ?_
  intro p e s m below meth c ls S hr hlocks hsz hA hW hK hN hl
  generalize va_A ((wC ad kc nn) σ) sz = A at hA hW ⊢
  generalize ([.ref (ad 0), .int (iI p0), .int (iI p1), .int (iI p2), .int (iI p3)] : List Value).toArray = args at S ⊢
  obtain ⟨hx, hb, hml, hown, hts⟩ := id S
  have hl : lv_has ls 5 [(0, .ref (ad 0)), (1, .int (iI p0)), (2, .int (iI p1)), (3, .int (iI p2)), (4, .int (iI p3))] := hl
  unfold wp_P_roomOf at h
  refine lv_aload_n hx hb dP_roomOf_0 rfl (lv_at hl 0 rfl) ?_
  refine k_get (ci := 0) (C := R_P) (T := T_P) (N := 7) hx hb hts (fun w q => gG_in (inG_P w q)) hown hK hW.1 0 rfl rfl 0 (by decide) (hts _ (gG_in mw_215)) rfl dP_roomOf_1 ?_
  refine lv_iload_n hx hb dP_roomOf_4 rfl (lv_at hl 1 rfl) ?_
  refine lv_iload_n hx hb dP_roomOf_5 rfl (lv_at hl 2 rfl) ?_
  obtain ⟨P1, g1, h⟩ := h
  refine kc_vp (As := [.int (iI p0), .int (iI p1)]) (rest := []) (ci := 1) (q0 := 1) S (c_S_hasCorner l dC dI ad kc nn σ p0 p1 g1) (cwV 2 hts (gV mw_438 mw_439 mw_440 mw_2 k_S_hasCorner) rfl rfl rfl (by decide +kernel) ⟨Nat.le_of_ble_eq_true rfl, Nat.le_of_ble_eq_true rfl⟩) hK hN hW.1 rfl rfl rfl hl.1 rfl (Nat.le_of_ble_eq_true rfl) dP_roomOf_6 ⟨Nat.zero_le _, Nat.zero_le _⟩ (fun r1 hp => ?_)
  have h := h r1 hp
  obtain ⟨q1, h⟩ := h
  obtain ⟨ht, hf⟩ := h
  refine ki_if_eq (tgt := 25) hx hb dP_roomOf_9 (by decide) q1 (fun c1 => ?_) (fun c1 => ?_)
  · have h := ht c1
    exact False.elim h
  · have h := hf c1
    refine lv_aload_n hx hb dP_roomOf_12 rfl (lv_at hl 0 rfl) ?_
    refine k_get (ci := 0) (C := R_P) (T := T_P) (N := 7) hx hb hts (fun w q => gG_in (inG_P w q)) hown hK hW.1 0 rfl rfl 0 (by decide) (hts _ (gG_in mw_215)) rfl dP_roomOf_13 ?_
    refine lv_iload_n hx hb dP_roomOf_16 rfl (lv_at hl 3 rfl) ?_
    refine lv_iload hx hb dP_roomOf_17 (lv_at hl 4 rfl) ?_
    obtain ⟨P2, g2, h⟩ := h
    refine kc_vp (As := [.int (iI p2), .int (iI p3)]) (rest := []) (ci := 1) (q0 := 1) S (c_S_hasCorner l dC dI ad kc nn σ p2 p3 g2) (cwV 2 hts (gV mw_438 mw_439 mw_440 mw_2 k_S_hasCorner) rfl rfl rfl (by decide +kernel) ⟨Nat.le_of_ble_eq_true rfl, Nat.le_of_ble_eq_true rfl⟩) hK hN hW.1 rfl rfl rfl hl.1 rfl (Nat.le_of_ble_eq_true rfl) dP_roomOf_19 ⟨Nat.zero_le _, Nat.zero_le _⟩ (fun r2 hp => ?_)
    have h := h r2 hp
    obtain ⟨q2, h⟩ := h
    obtain ⟨ht, hf⟩ := h
    refine ki_if_ne (tgt := 35) hx hb dP_roomOf_22 (by decide) q2 (fun c2 => ?_) (fun c2 => ?_)
    · have h := ht c2
      refine lv_aload_n hx hb dP_roomOf_35 rfl (lv_at hl 0 rfl) ?_
      refine k_get (ci := 0) (C := R_P) (T := T_P) (N := 7) hx hb hts (fun w q => gG_in (inG_P w q)) hown hK hW.1 0 rfl rfl 1 (by decide) (hts _ (gG_in mw_216)) rfl dP_roomOf_36 ?_
      refine lv_iload_n hx hb dP_roomOf_39 rfl (lv_at hl 1 rfl) ?_
      refine lv_iload_n hx hb dP_roomOf_40 rfl (lv_at hl 2 rfl) ?_
      refine lv_iload_n hx hb dP_roomOf_41 rfl (lv_at hl 3 rfl) ?_
      refine lv_iload hx hb dP_roomOf_42 (lv_at hl 4 rfl) ?_
      obtain ⟨P3, g3, h⟩ := h
      refine kc_vi (As := [.int (iI p0), .int (iI p1), .int (iI p2), .int (iI p3)]) (rest := []) (ci := 2) (q0 := 2) S (c_A_exactRoom l dC dI ad kc nn σ p0 p1 p2 p3 g3) (cwV 4 hts (gV mw_443 mw_444 mw_445 mw_4 k_A_exactRoom) rfl rfl rfl (by decide +kernel) ⟨Nat.le_of_ble_eq_true rfl, Nat.le_of_ble_eq_true rfl⟩) hK hN hA hW (fun _ => rfl) rfl rfl rfl hl.1 rfl (Nat.le_of_ble_eq_true rfl) dP_roomOf_44 ⟨Nat.zero_le _, Nat.zero_le _⟩ (fun r3 s1 H locs hp hW => ?_)
      have h := h r3 s1 hp
      exact k_iret hx hb hr hlocks hW dP_roomOf_47 h
    · have h := hf c2
      exact False.elim h
abbrev rm_R_peelOff : Room := { frames := 1, cells := 0, slots := 0, locals := 14 }
set_option maxHeartbeats 4000000 in
set_option maxRecDepth 100000 in
theorem c_R_peelOff (l : Launch) (dC : Nat → ClassId) (dI : Nat → Nat → Nat) (ad : Nat → Nat) (kc : Nat → ClassId) (nn : Nat → Nat) (σ : kM) (p0 : Int) (p1 : Int) (p2 : Int) {P : kM → Prop} (h : wp_R_peelOff nn σ p0 p1 p2 P) : kMv l y_R_peelOff ws_R_peelOff rm_R_peelOff (dC, dI) vwC (tyC kc) (wC ad kc nn) nsG σ [.ref (ad 3), .int (iI p0), .int (iI p1), .int (iI p2)] P := by
  intro sz
  refine k_enter (cc := b_R_peelOff) (maxL := 4) (ret := none) (by decide) rfl (Nat.le_of_ble_eq_true rfl) ?_
  intro p e s m below meth c ls S hr hlocks hsz hA hW hK hN hl
  generalize va_A ((wC ad kc nn) σ) sz = A at hA hW ⊢
  generalize ([.ref (ad 3), .int (iI p0), .int (iI p1), .int (iI p2)] : List Value).toArray = args at S ⊢
  obtain ⟨hx, hb, hml, hown, hts⟩ := id S
  have hl : lv_has ls 4 [(0, .ref (ad 3)), (1, .int (iI p0)), (2, .int (iI p1)), (3, .int (iI p2))] := hl
  unfold wp_R_peelOff at h
  refine lv_aload_n hx hb dR_peelOff_0 rfl (lv_at hl 0 rfl) ?_
  refine lv_iload_n hx hb dR_peelOff_1 rfl (lv_at hl 1 rfl) ?_
  obtain ⟨s1, es1⟩ : ∃ z : kM, z = va_up σ 3 (va_up (σ 3) 1 p0) := ⟨_, rfl⟩
  refine k_put (ty := .int) (ws' := wC ad kc nn s1) (ci := 3) (C := R_R) (T := T_R) (N := 4) hx hb hts (fun w q => gG_in (inG_R w q)) ty_R tk_R nm_R hown hK hW 3 rfl rfl 1 (by decide) (hts _ (gG_in mw_111)) rfl (by decide +kernel) rfl rfl (Nat.le_of_ble_eq_true rfl) (by rw [es1]; exact wC_p3_1 ..) dR_peelOff_2 (fun H locs hW => ?_)
  have h := h s1 es1
  refine lv_aload_n hx hb dR_peelOff_5 rfl (lv_at hl 0 rfl) ?_
  refine lv_iconst (v := iI 1) hx hb dR_peelOff_6 rfl ?_
  refine lv_iload_n hx hb dR_peelOff_7 rfl (lv_at hl 2 rfl) ?_
  obtain ⟨q1, h⟩ := h
  refine kmx hx hb (hml.trans hl.1.symm) hown (hts _ (gG_in mw_475)) (hts _ (gG_in mw_34)) (hts _ (gG_in mw_3)) (hts _ (gG_in mk_max)) ⟨Nat.le_of_ble_eq_true rfl, Nat.le_of_ble_eq_true rfl⟩ ⟨Nat.zero_le _, Nat.zero_le _⟩ (by constructor <;> decide) q1 dR_peelOff_8 ?_
  obtain ⟨s2, es2⟩ : ∃ z : kM, z = va_up s1 3 (va_up (s1 3) 2 (if 1 < p1 then p1 else 1)) := ⟨_, rfl⟩
  refine k_put (ty := .int) (ws' := wC ad kc nn s2) (ci := 3) (C := R_R) (T := T_R) (N := 4) hx hb hts (fun w q => gG_in (inG_R w q)) ty_R tk_R nm_R hown hK hW 3 rfl rfl 2 (by decide) (hts _ (gG_in mw_112)) rfl (by decide +kernel) rfl rfl (Nat.le_of_ble_eq_true rfl) (by rw [es2]; exact wC_p3_2 ..) dR_peelOff_11 (fun H locs hW => ?_)
  have h := h s2 es2
  refine lv_aload_n hx hb dR_peelOff_14 rfl (lv_at hl 0 rfl) ?_
  refine lv_aload_n hx hb dR_peelOff_15 rfl (lv_at hl 0 rfl) ?_
  refine k_get (ci := 3) (C := R_R) (T := T_R) (N := 4) hx hb hts (fun w q => gG_in (inG_R w q)) hown hK hW.1 3 rfl rfl 1 (by decide) (hts _ (gG_in mw_111)) rfl dR_peelOff_16 ?_
  refine lv_iload_n hx hb dR_peelOff_19 rfl (lv_at hl 3 rfl) ?_
  obtain ⟨q2, h⟩ := h
  obtain ⟨q3, h⟩ := h
  obtain ⟨ht, hf⟩ := h
  refine ki_icmp_ge (tgt := 27) hx hb dR_peelOff_20 (by decide) q2 q3 (fun c1 => ?_) (fun c1 => ?_)
  · have h := ht c1
    refine lv_aload_n hx hb dR_peelOff_27 rfl (lv_at hl 0 rfl) ?_
    refine k_get (ci := 3) (C := R_R) (T := T_R) (N := 4) hx hb hts (fun w q => gG_in (inG_R w q)) hown hK hW.1 3 rfl rfl 1 (by decide) (hts _ (gG_in mw_111)) rfl dR_peelOff_28 ?_
    refine lv_iload_n hx hb dR_peelOff_31 rfl (lv_at hl 3 rfl) ?_
    refine ki_sub hx hb dR_peelOff_32 ?_
    refine lv_aload_n hx hb dR_peelOff_33 rfl (lv_at hl 0 rfl) ?_
    refine k_get (ci := 3) (C := R_R) (T := T_R) (N := 4) hx hb hts (fun w q => gG_in (inG_R w q)) hown hK hW.1 3 rfl rfl 2 (by decide) (hts _ (gG_in mw_112)) rfl dR_peelOff_34 ?_
    obtain ⟨q4, h⟩ := h
    refine ki_div hx hb dR_peelOff_37 q4 ?_
    obtain ⟨s3, es3⟩ : ∃ z : kM, z = va_up s2 3 (va_up (s2 3) 3 (((s2 3 1) - p2) / (s2 3 2))) := ⟨_, rfl⟩
    refine k_put (ty := .int) (ws' := wC ad kc nn s3) (ci := 3) (C := R_R) (T := T_R) (N := 4) hx hb hts (fun w q => gG_in (inG_R w q)) ty_R tk_R nm_R hown hK hW 3 rfl rfl 3 (by decide) (hts _ (gG_in mw_113)) rfl (by decide +kernel) rfl rfl (Nat.le_of_ble_eq_true rfl) (by rw [es3]; exact wC_p3_3 ..) dR_peelOff_38 (fun H locs hW => ?_)
    have h := h s3 es3
    refine lv_aload_n hx hb dR_peelOff_41 rfl (lv_at hl 0 rfl) ?_
    refine lv_iconst (v := iI 1) hx hb dR_peelOff_42 rfl ?_
    obtain ⟨s4, es4⟩ : ∃ z : kM, z = va_up s3 3 (va_up (s3 3) 0 1) := ⟨_, rfl⟩
    refine k_put (ty := .boolean) (ws' := wC ad kc nn s4) (ci := 3) (C := R_R) (T := T_R) (N := 4) hx hb hts (fun w q => gG_in (inG_R w q)) ty_R tk_R nm_R hown hK hW 3 rfl rfl 0 (by decide) (hts _ (gG_in mw_110)) rfl (by decide +kernel) (narZ (by decide)) (fitZ (by decide)) (Nat.le_of_ble_eq_true rfl) (by rw [es4]; exact wC_p3_0 ..) dR_peelOff_43 (fun H locs hW => ?_)
    have h := h s4 es4
    exact k_vret hx hb hr hlocks hW dR_peelOff_46 h
  · have h := hf c1
    refine lv_iconst (v := iI 0) hx hb dR_peelOff_23 rfl ?_
    refine lv_goto (tgt := 38) hx hb dR_peelOff_24 (by decide) ?_
    obtain ⟨s5, es5⟩ : ∃ z : kM, z = va_up s2 3 (va_up (s2 3) 3 0) := ⟨_, rfl⟩
    refine k_put (ty := .int) (ws' := wC ad kc nn s5) (ci := 3) (C := R_R) (T := T_R) (N := 4) hx hb hts (fun w q => gG_in (inG_R w q)) ty_R tk_R nm_R hown hK hW 3 rfl rfl 3 (by decide) (hts _ (gG_in mw_113)) rfl (by decide +kernel) rfl rfl (Nat.le_of_ble_eq_true rfl) (by rw [es5]; exact wC_p3_3 ..) dR_peelOff_38 (fun H locs hW => ?_)
    have h := h s5 es5
    refine lv_aload_n hx hb dR_peelOff_41 rfl (lv_at hl 0 rfl) ?_
    refine lv_iconst (v := iI 1) hx hb dR_peelOff_42 rfl ?_
    obtain ⟨s6, es6⟩ : ∃ z : kM, z = va_up s5 3 (va_up (s5 3) 0 1) := ⟨_, rfl⟩
    refine k_put (ty := .boolean) (ws' := wC ad kc nn s6) (ci := 3) (C := R_R) (T := T_R) (N := 4) hx hb hts (fun w q => gG_in (inG_R w q)) ty_R tk_R nm_R hown hK hW 3 rfl rfl 0 (by decide) (hts _ (gG_in mw_110)) rfl (by decide +kernel) (narZ (by decide)) (fitZ (by decide)) (Nat.le_of_ble_eq_true rfl) (by rw [es6]; exact wC_p3_0 ..) dR_peelOff_43 (fun H locs hW => ?_)
    have h := h s6 es6
    exact k_vret hx hb hr hlocks hW dR_peelOff_46 h
abbrev rm_R_turns : Room := { frames := 0, cells := 0, slots := 0, locals := 0 }
set_option maxHeartbeats 4000000 in
set_option maxRecDepth 100000 in
theorem c_R_turns (l : Launch) (dC : Nat → ClassId) (dI : Nat → Nat → Nat) (ad : Nat → Nat) (kc : Nat → ClassId) (nn : Nat → Nat) (σ : kM) {P : Int → Prop} (h : wp_R_turns nn σ P) : kMp l y_R_turns ws_R_turns rm_R_turns (dC, dI) vwC (tyC kc) (wC ad kc nn) nsG σ [.ref (ad 3)] P := by
  refine k_enterP (cc := b_R_turns) (maxL := 1) (ret := (some .int)) (by decide) rfl (Nat.le_of_ble_eq_true rfl) ?_
  intro p e s m below meth c ls S hr hlocks hP hK hN hl
  generalize ([.ref (ad 3)] : List Value).toArray = args at S ⊢
  obtain ⟨hx, hb, hml, hown, hts⟩ := id S
  have hl : lv_has ls 1 [(0, .ref (ad 3))] := hl
  unfold wp_R_turns at h
  refine lv_aload_n hx hb dR_turns_0 rfl (lv_at hl 0 rfl) ?_
  refine k_get (ci := 3) (C := R_R) (T := T_R) (N := 4) hx hb hts (fun w q => gG_in (inG_R w q)) hown hK hP 3 rfl rfl 3 (by decide) (hts _ (gG_in mw_113)) rfl dR_turns_1 ?_
  exact k_iretP hx hb hr hlocks dR_turns_4 h
abbrev rm_P_peel : Room := { frames := 6, cells := 0, slots := 0, locals := 139 }
set_option maxHeartbeats 4000000 in
set_option maxRecDepth 100000 in
theorem c_P_peel (l : Launch) (dC : Nat → ClassId) (dI : Nat → Nat → Nat) (ad : Nat → Nat) (kc : Nat → ClassId) (nn : Nat → Nat) (σ : kM) (p0 : Int) (p1 : Int) {P : Int → kM → Prop} (h : wp_P_peel nn σ p0 p1 P (fun _ _ => False)) : kMi l y_P_peel ws_P_peel rm_P_peel (dC, dI) vwC (tyC kc) (wC ad kc nn) nsG σ [.ref (ad 0), .int (iI p0), .int (iI p1)] P := by
  intro sz
  refine k_enter (cc := b_P_peel) (maxL := 3) (ret := (some .int)) (by decide) rfl (Nat.le_of_ble_eq_true rfl) ?_
  intro p e s m below meth c ls S hr hlocks hsz hA hW hK hN hl
  generalize va_A ((wC ad kc nn) σ) sz = A at hA hW ⊢
  generalize ([.ref (ad 0), .int (iI p0), .int (iI p1)] : List Value).toArray = args at S ⊢
  obtain ⟨hx, hb, hml, hown, hts⟩ := id S
  have hl : lv_has ls 3 [(0, .ref (ad 0)), (1, .int (iI p0)), (2, .int (iI p1))] := hl
  unfold wp_P_peel at h
  refine lv_iload_n hx hb dP_peel_0 rfl (lv_at hl 1 rfl) ?_
  refine lv_iconst (v := iI 1) hx hb dP_peel_1 rfl ?_
  refine lv_sipush (v := iI 1000) hx hb dP_peel_2 (by decide) ?_
  obtain ⟨P1, g1, h⟩ := h
  refine kc_sp (As := [.int (iI p0), .int (iI 1), .int (iI 1000)]) (rest := []) S (c_P_isWithin l dC dI (tyC kc) (wC ad kc nn) nn σ p0 1 1000 g1) (cwS 3 hts (gS mw_425 mw_332 mw_1 k_P_isWithin) rfl rfl rfl (by decide +kernel) ⟨Nat.le_of_ble_eq_true rfl, Nat.le_of_ble_eq_true rfl⟩) hK hN hW.1 rfl hl.1 rfl (Nat.le_of_ble_eq_true rfl) dP_peel_5 ⟨Nat.zero_le _, Nat.zero_le _⟩ (fun r1 hp => ?_)
  have h := h r1 hp
  obtain ⟨q1, h⟩ := h
  obtain ⟨ht, hf⟩ := h
  refine ki_if_eq (tgt := 22) hx hb dP_peel_8 (by decide) q1 (fun c1 => ?_) (fun c1 => ?_)
  · have h := ht c1
    exact False.elim h
  · have h := hf c1
    refine lv_iload_n hx hb dP_peel_11 rfl (lv_at hl 2 rfl) ?_
    refine lv_iconst (v := iI 0) hx hb dP_peel_12 rfl ?_
    refine lv_sipush (v := iI 1000) hx hb dP_peel_13 (by decide) ?_
    obtain ⟨P2, g2, h⟩ := h
    refine kc_sp (As := [.int (iI p1), .int (iI 0), .int (iI 1000)]) (rest := []) S (c_P_isWithin l dC dI (tyC kc) (wC ad kc nn) nn σ p1 0 1000 g2) (cwS 3 hts (gS mw_425 mw_332 mw_1 k_P_isWithin) rfl rfl rfl (by decide +kernel) ⟨Nat.le_of_ble_eq_true rfl, Nat.le_of_ble_eq_true rfl⟩) hK hN hW.1 rfl hl.1 rfl (Nat.le_of_ble_eq_true rfl) dP_peel_16 ⟨Nat.zero_le _, Nat.zero_le _⟩ (fun r2 hp => ?_)
    have h := h r2 hp
    obtain ⟨q2, h⟩ := h
    obtain ⟨ht, hf⟩ := h
    refine ki_if_ne (tgt := 32) hx hb dP_peel_19 (by decide) q2 (fun c2 => ?_) (fun c2 => ?_)
    · have h := ht c2
      refine lv_aload_n hx hb dP_peel_32 rfl (lv_at hl 0 rfl) ?_
      refine k_get (ci := 0) (C := R_P) (T := T_P) (N := 7) hx hb hts (fun w q => gG_in (inG_P w q)) hown hK hW.1 0 rfl rfl 2 (by decide) (hts _ (gG_in mw_217)) rfl dP_peel_33 ?_
      refine lv_aload_n hx hb dP_peel_36 rfl (lv_at hl 0 rfl) ?_
      refine k_get (ci := 0) (C := R_P) (T := T_P) (N := 7) hx hb hts (fun w q => gG_in (inG_P w q)) hown hK hW.1 0 rfl rfl 1 (by decide) (hts _ (gG_in mw_216)) rfl dP_peel_37 ?_
      obtain ⟨P3, g3, h⟩ := h
      refine kc_vi (As := []) (rest := [.ref (ad 3)]) (ci := 2) (q0 := 2) S (c_A_greatestRadius l dC dI ad kc nn σ g3) (cwV 0 hts (gV mw_309 mw_310 mw_311 mw_4 k_A_greatestRadius) rfl rfl rfl (by decide +kernel) ⟨Nat.le_of_ble_eq_true rfl, Nat.le_of_ble_eq_true rfl⟩) hK hN hA hW (fun _ => rfl) rfl rfl rfl hl.1 rfl (Nat.le_of_ble_eq_true rfl) dP_peel_40 ⟨Nat.zero_le _, Nat.zero_le _⟩ (fun r3 s1 H locs hp hW => ?_)
      have h := h r3 s1 hp
      refine lv_iload_n hx hb dP_peel_43 rfl (lv_at hl 1 rfl) ?_
      refine lv_iload_n hx hb dP_peel_44 rfl (lv_at hl 2 rfl) ?_
      obtain ⟨P4, g4, h⟩ := h
      refine kc_vv (As := [.int (iI r3), .int (iI p0), .int (iI p1)]) (rest := []) (ci := 3) (q0 := 3) S (c_R_peelOff l dC dI ad kc nn s1 r3 p0 p1 g4) (cwV 3 hts (gV mw_471 mw_472 mw_473 mw_5 k_R_peelOff) rfl rfl rfl (by decide +kernel) ⟨Nat.le_of_ble_eq_true rfl, Nat.le_of_ble_eq_true rfl⟩) hK hN hA hW (fun _ => rfl) rfl rfl rfl hl.1 rfl (Nat.le_of_ble_eq_true rfl) dP_peel_45 ⟨Nat.zero_le _, Nat.zero_le _⟩ (fun s2 H locs hp hW => ?_)
      have h := h s2 hp
      refine lv_aload_n hx hb dP_peel_48 rfl (lv_at hl 0 rfl) ?_
      refine k_get (ci := 0) (C := R_P) (T := T_P) (N := 7) hx hb hts (fun w q => gG_in (inG_P w q)) hown hK hW.1 0 rfl rfl 5 (by decide) (hts _ (gG_in mw_220)) rfl dP_peel_49 ?_
      obtain ⟨P5, g5, h⟩ := h
      refine kc_vv (As := []) (rest := []) (ci := 6) (q0 := 6) S (c_C_forget l dC dI ad kc nn s2 g5) (cwV 0 hts (gV mw_414 mw_415 mw_416 mw_8 k_C_forget) rfl rfl rfl (by decide +kernel) ⟨Nat.le_of_ble_eq_true rfl, Nat.le_of_ble_eq_true rfl⟩) hK hN hA hW (fun _ => rfl) rfl rfl rfl hl.1 rfl (Nat.le_of_ble_eq_true rfl) dP_peel_52 ⟨Nat.zero_le _, Nat.zero_le _⟩ (fun s3 H locs hp hW => ?_)
      have h := h s3 hp
      refine lv_aload_n hx hb dP_peel_55 rfl (lv_at hl 0 rfl) ?_
      refine k_get (ci := 0) (C := R_P) (T := T_P) (N := 7) hx hb hts (fun w q => gG_in (inG_P w q)) hown hK hW.1 0 rfl rfl 2 (by decide) (hts _ (gG_in mw_217)) rfl dP_peel_56 ?_
      refine kc_vp (As := []) (rest := []) (ci := 3) (q0 := 3) S (c_R_turns l dC dI ad kc nn s3 (P := fun r => (s3 3 3) = r) rfl) (cwV 0 hts (gV mw_476 mw_477 mw_478 mw_5 k_R_turns) rfl rfl rfl (by decide +kernel) ⟨Nat.le_of_ble_eq_true rfl, Nat.le_of_ble_eq_true rfl⟩) hK hN hW.1 rfl rfl rfl hl.1 rfl (Nat.le_of_ble_eq_true rfl) dP_peel_59 ⟨Nat.zero_le _, Nat.zero_le _⟩ (fun r4 hp => ?_)
      subst hp
      exact k_iret hx hb hr hlocks hW dP_peel_62 h
    · have h := hf c2
      exact False.elim h
abbrev rm_R_isPeeled : Room := { frames := 0, cells := 0, slots := 0, locals := 0 }
set_option maxHeartbeats 4000000 in
set_option maxRecDepth 100000 in
theorem c_R_isPeeled (l : Launch) (dC : Nat → ClassId) (dI : Nat → Nat → Nat) (ad : Nat → Nat) (kc : Nat → ClassId) (nn : Nat → Nat) (σ : kM) {P : Int → Prop} (h : wp_R_isPeeled nn σ P) : kMp l y_R_isPeeled ws_R_isPeeled rm_R_isPeeled (dC, dI) vwC (tyC kc) (wC ad kc nn) nsG σ [.ref (ad 3)] P := by
  refine k_enterP (cc := b_R_isPeeled) (maxL := 1) (ret := (some .boolean)) (by decide) rfl (Nat.le_of_ble_eq_true rfl) ?_
  intro p e s m below meth c ls S hr hlocks hP hK hN hl
  generalize ([.ref (ad 3)] : List Value).toArray = args at S ⊢
  obtain ⟨hx, hb, hml, hown, hts⟩ := id S
  have hl : lv_has ls 1 [(0, .ref (ad 3))] := hl
  unfold wp_R_isPeeled at h
  refine lv_aload_n hx hb dR_isPeeled_0 rfl (lv_at hl 0 rfl) ?_
  refine k_get (ci := 3) (C := R_R) (T := T_R) (N := 4) hx hb hts (fun w q => gG_in (inG_R w q)) hown hK hP 3 rfl rfl 0 (by decide) (hts _ (gG_in mw_110)) rfl dR_isPeeled_1 ?_
  exact k_zretP hx hb hr hlocks dR_isPeeled_4 h.1 h.2
abbrev rm_R_roundOf : Room := { frames := 0, cells := 0, slots := 0, locals := 0 }
set_option maxHeartbeats 4000000 in
set_option maxRecDepth 100000 in
theorem c_R_roundOf (l : Launch) (dC : Nat → ClassId) (dI : Nat → Nat → Nat) (tys : List (ClassId × FieldType)) (w : kM → va_W) (nn : Nat → Nat) (σ : kM) (p0 : Int) {P : Int → Prop} (h : wp_R_roundOf nn σ p0 P) : kMp l y_R_roundOf ws_R_roundOf rm_R_roundOf (dC, dI) vwC tys w nsG σ [.int (iI p0)] P := by
  refine k_enterP (cc := b_R_roundOf) (maxL := 1) (ret := (some .int)) (by decide) rfl (Nat.le_of_ble_eq_true rfl) ?_
  intro p e s m below meth c ls S hr hlocks hP hK hN hl
  generalize ([.int (iI p0)] : List Value).toArray = args at S ⊢
  obtain ⟨hx, hb, hml, hown, hts⟩ := id S
  have hl : lv_has ls 1 [(0, .int (iI p0))] := hl
  unfold wp_R_roundOf at h
  refine lv_iload_n hx hb dR_roundOf_0 rfl (lv_at hl 0 rfl) ?_
  refine lv_sipush (v := iI 710) hx hb dR_roundOf_1 (by decide) ?_
  refine ki_mul hx hb dR_roundOf_4 ?_
  refine lv_bipush (v := iI 113) hx hb dR_roundOf_5 (by decide) ?_
  obtain ⟨q1, h⟩ := h
  refine ki_div hx hb dR_roundOf_7 ⟨q1.1, by constructor <;> decide, q1.2, by decide⟩ ?_
  exact k_iretP hx hb hr hlocks dR_roundOf_8 h
abbrev rm_R_lengthBefore : Room := { frames := 1, cells := 0, slots := 0, locals := 20 }
set_option maxHeartbeats 4000000 in
set_option maxRecDepth 100000 in
theorem c_R_lengthBefore (l : Launch) (dC : Nat → ClassId) (dI : Nat → Nat → Nat) (ad : Nat → Nat) (kc : Nat → ClassId) (nn : Nat → Nat) (σ : kM) (p0 : Int) {P : Int → Prop} (h : wp_R_lengthBefore nn σ p0 P) : kMp l y_R_lengthBefore ws_R_lengthBefore rm_R_lengthBefore (dC, dI) vwC (tyC kc) (wC ad kc nn) nsG σ [.ref (ad 3), .int (iI p0)] P := by
  refine k_enterP (cc := b_R_lengthBefore) (maxL := 3) (ret := (some .int)) (by decide) rfl (Nat.le_of_ble_eq_true rfl) ?_
  intro p e s m below meth c ls S hr hlocks hP hK hN hl
  generalize ([.ref (ad 3), .int (iI p0)] : List Value).toArray = args at S ⊢
  obtain ⟨hx, hb, hml, hown, hts⟩ := id S
  have hl : lv_has ls 3 [(0, .ref (ad 3)), (1, .int (iI p0))] := hl
  unfold wp_R_lengthBefore at h
  refine lv_iload_n hx hb dR_lengthBefore_0 rfl (lv_at hl 1 rfl) ?_
  refine lv_aload_n hx hb dR_lengthBefore_1 rfl (lv_at hl 0 rfl) ?_
  refine k_get (ci := 3) (C := R_R) (T := T_R) (N := 4) hx hb hts (fun w q => gG_in (inG_R w q)) hown hK hP 3 rfl rfl 1 (by decide) (hts _ (gG_in mw_111)) rfl dR_lengthBefore_2 ?_
  refine ki_mul hx hb dR_lengthBefore_5 ?_
  refine lv_aload_n hx hb dR_lengthBefore_6 rfl (lv_at hl 0 rfl) ?_
  refine k_get (ci := 3) (C := R_R) (T := T_R) (N := 4) hx hb hts (fun w q => gG_in (inG_R w q)) hown hK hP 3 rfl rfl 2 (by decide) (hts _ (gG_in mw_112)) rfl dR_lengthBefore_7 ?_
  refine lv_iload_n hx hb dR_lengthBefore_10 rfl (lv_at hl 1 rfl) ?_
  refine lv_iload_n hx hb dR_lengthBefore_11 rfl (lv_at hl 1 rfl) ?_
  refine lv_iconst (v := iI 1) hx hb dR_lengthBefore_12 rfl ?_
  refine ki_sub hx hb dR_lengthBefore_13 ?_
  refine ki_mul hx hb dR_lengthBefore_14 ?_
  refine lv_iconst (v := iI 2) hx hb dR_lengthBefore_15 rfl ?_
  obtain ⟨q1, h⟩ := h
  refine ki_div hx hb dR_lengthBefore_16 ⟨q1.1, by constructor <;> decide, q1.2, by decide⟩ ?_
  refine ki_mul hx hb dR_lengthBefore_17 ?_
  refine ki_sub hx hb dR_lengthBefore_18 ?_
  refine ki_nm (fun v1 ev1 => ?_)
  have h := h v1 ev1
  refine lv_istore_n (lv' := [(2, .int (iI v1)), (0, .ref (ad 3)), (1, .int (iI p0))]) hx hb dR_lengthBefore_19 rfl hl (by decide) rfl (fun ls hl => ?_)
  refine lv_iload_n hx hb dR_lengthBefore_20 rfl (lv_at hl 0 rfl) ?_
  obtain ⟨P1, g1, h⟩ := h
  refine kc_sp (As := [.int (iI v1)]) (rest := []) S (c_R_roundOf l dC dI (tyC kc) (wC ad kc nn) nn σ v1 g1) (cwS 1 hts (gS mw_513 mw_514 mw_5 k_R_roundOf) rfl rfl rfl (by decide +kernel) ⟨Nat.le_of_ble_eq_true rfl, Nat.le_of_ble_eq_true rfl⟩) hK hN hP rfl hl.1 rfl (Nat.le_of_ble_eq_true rfl) dR_lengthBefore_21 ⟨Nat.zero_le _, Nat.zero_le _⟩ (fun r1 hp => ?_)
  have h := h r1 hp
  exact k_iretP hx hb hr hlocks dR_lengthBefore_24 h
abbrev rm_P_before : Room := { frames := 6, cells := 0, slots := 0, locals := 82 }
set_option maxHeartbeats 4000000 in
set_option maxRecDepth 100000 in
theorem c_P_before (l : Launch) (dC : Nat → ClassId) (dI : Nat → Nat → Nat) (ad : Nat → Nat) (kc : Nat → ClassId) (nn : Nat → Nat) (σ : kM) (p0 : Int) {P : Int → kM → Prop} (h : wp_P_before nn σ p0 P (fun _ _ => False)) : kMi l y_P_before ws_P_before rm_P_before (dC, dI) vwC (tyC kc) (wC ad kc nn) nsG σ [.ref (ad 0), .int (iI p0)] P := by
  intro sz
  refine k_enter (cc := b_P_before) (maxL := 2) (ret := (some .int)) (by decide) rfl (Nat.le_of_ble_eq_true rfl) ?_
  intro p e s m below meth c ls S hr hlocks hsz hA hW hK hN hl
  generalize va_A ((wC ad kc nn) σ) sz = A at hA hW ⊢
  generalize ([.ref (ad 0), .int (iI p0)] : List Value).toArray = args at S ⊢
  obtain ⟨hx, hb, hml, hown, hts⟩ := id S
  have hl : lv_has ls 2 [(0, .ref (ad 0)), (1, .int (iI p0))] := hl
  unfold wp_P_before at h
  refine lv_aload_n hx hb dP_before_0 rfl (lv_at hl 0 rfl) ?_
  refine k_get (ci := 0) (C := R_P) (T := T_P) (N := 7) hx hb hts (fun w q => gG_in (inG_P w q)) hown hK hW.1 0 rfl rfl 2 (by decide) (hts _ (gG_in mw_217)) rfl dP_before_1 ?_
  obtain ⟨P1, g1, h⟩ := h
  refine kc_vp (As := []) (rest := []) (ci := 3) (q0 := 3) S (c_R_isPeeled l dC dI ad kc nn σ g1) (cwV 0 hts (gV mw_488 mw_489 mw_490 mw_5 k_R_isPeeled) rfl rfl rfl (by decide +kernel) ⟨Nat.le_of_ble_eq_true rfl, Nat.le_of_ble_eq_true rfl⟩) hK hN hW.1 rfl rfl rfl hl.1 rfl (Nat.le_of_ble_eq_true rfl) dP_before_4 ⟨Nat.zero_le _, Nat.zero_le _⟩ (fun r1 hp => ?_)
  have h := h r1 hp
  obtain ⟨q1, h⟩ := h
  obtain ⟨ht, hf⟩ := h
  refine ki_if_ne (tgt := 20) hx hb dP_before_7 (by decide) q1 (fun c1 => ?_) (fun c1 => ?_)
  · have h := ht c1
    refine lv_iload_n hx hb dP_before_20 rfl (lv_at hl 1 rfl) ?_
    refine lv_iconst (v := iI 0) hx hb dP_before_21 rfl ?_
    refine lv_aload_n hx hb dP_before_22 rfl (lv_at hl 0 rfl) ?_
    refine k_get (ci := 0) (C := R_P) (T := T_P) (N := 7) hx hb hts (fun w q => gG_in (inG_P w q)) hown hK hW.1 0 rfl rfl 2 (by decide) (hts _ (gG_in mw_217)) rfl dP_before_23 ?_
    refine kc_vp (As := []) (rest := [.int (iI 0), .int (iI p0)]) (ci := 3) (q0 := 3) S (c_R_turns l dC dI ad kc nn σ (P := fun r => (σ 3 3) = r) rfl) (cwV 0 hts (gV mw_476 mw_477 mw_478 mw_5 k_R_turns) rfl rfl rfl (by decide +kernel) ⟨Nat.le_of_ble_eq_true rfl, Nat.le_of_ble_eq_true rfl⟩) hK hN hW.1 rfl rfl rfl hl.1 rfl (Nat.le_of_ble_eq_true rfl) dP_before_26 ⟨Nat.zero_le _, Nat.zero_le _⟩ (fun r2 hp => ?_)
    subst hp
    obtain ⟨P2, g2, h⟩ := h
    refine kc_sp (As := [.int (iI p0), .int (iI 0), .int (iI (σ 3 3))]) (rest := []) S (c_P_isWithin l dC dI (tyC kc) (wC ad kc nn) nn σ p0 0 (σ 3 3) g2) (cwS 3 hts (gS mw_425 mw_332 mw_1 k_P_isWithin) rfl rfl rfl (by decide +kernel) ⟨Nat.le_of_ble_eq_true rfl, Nat.le_of_ble_eq_true rfl⟩) hK hN hW.1 rfl hl.1 rfl (Nat.le_of_ble_eq_true rfl) dP_before_29 ⟨Nat.zero_le _, Nat.zero_le _⟩ (fun r3 hp => ?_)
    have h := h r3 hp
    obtain ⟨q2, h⟩ := h
    obtain ⟨ht, hf⟩ := h
    refine ki_if_ne (tgt := 45) hx hb dP_before_32 (by decide) q2 (fun c2 => ?_) (fun c2 => ?_)
    · have h := ht c2
      refine lv_aload_n hx hb dP_before_45 rfl (lv_at hl 0 rfl) ?_
      refine k_get (ci := 0) (C := R_P) (T := T_P) (N := 7) hx hb hts (fun w q => gG_in (inG_P w q)) hown hK hW.1 0 rfl rfl 2 (by decide) (hts _ (gG_in mw_217)) rfl dP_before_46 ?_
      refine lv_iload_n hx hb dP_before_49 rfl (lv_at hl 1 rfl) ?_
      obtain ⟨P3, g3, h⟩ := h
      refine kc_vp (As := [.int (iI p0)]) (rest := []) (ci := 3) (q0 := 3) S (c_R_lengthBefore l dC dI ad kc nn σ p0 g3) (cwV 1 hts (gV mw_509 mw_510 mw_511 mw_5 k_R_lengthBefore) rfl rfl rfl (by decide +kernel) ⟨Nat.le_of_ble_eq_true rfl, Nat.le_of_ble_eq_true rfl⟩) hK hN hW.1 rfl rfl rfl hl.1 rfl (Nat.le_of_ble_eq_true rfl) dP_before_50 ⟨Nat.zero_le _, Nat.zero_le _⟩ (fun r4 hp => ?_)
      have h := h r4 hp
      exact k_iret hx hb hr hlocks hW dP_before_53 h
    · have h := hf c2
      exact False.elim h
  · have h := hf c1
    exact False.elim h
abbrev rm_P_isKind : Room := { frames := 1, cells := 0, slots := 0, locals := 22 }
set_option maxHeartbeats 4000000 in
set_option maxRecDepth 100000 in
theorem c_P_isKind (l : Launch) (dC : Nat → ClassId) (dI : Nat → Nat → Nat) (tys : List (ClassId × FieldType)) (w : kM → va_W) (nn : Nat → Nat) (σ : kM) (p0 : Int) {P : Int → Prop} (h : wp_P_isKind nn σ p0 P) : kMp l y_P_isKind ws_P_isKind rm_P_isKind (dC, dI) vwC tys w nsG σ [.int (iI p0)] P := by
  refine k_enterP (cc := b_P_isKind) (maxL := 1) (ret := (some .boolean)) (by decide) rfl (Nat.le_of_ble_eq_true rfl) ?_
  intro p e s m below meth c ls S hr hlocks hP hK hN hl
  generalize ([.int (iI p0)] : List Value).toArray = args at S ⊢
  obtain ⟨hx, hb, hml, hown, hts⟩ := id S
  have hl : lv_has ls 1 [(0, .int (iI p0))] := hl
  unfold wp_P_isKind at h
  refine lv_iload_n hx hb dP_isKind_0 rfl (lv_at hl 0 rfl) ?_
  refine lv_iconst (v := iI 0) hx hb dP_isKind_1 rfl ?_
  refine lv_iconst (v := iI 3) hx hb dP_isKind_2 rfl ?_
  obtain ⟨P1, g1, h⟩ := h
  refine kc_sp (As := [.int (iI p0), .int (iI 0), .int (iI 3)]) (rest := []) S (c_P_isWithin l dC dI tys w nn σ p0 0 3 g1) (cwS 3 hts (gS mw_425 mw_332 mw_1 k_P_isWithin) rfl rfl rfl (by decide +kernel) ⟨Nat.le_of_ble_eq_true rfl, Nat.le_of_ble_eq_true rfl⟩) hK hN hP rfl hl.1 rfl (Nat.le_of_ble_eq_true rfl) dP_isKind_3 ⟨Nat.zero_le _, Nat.zero_le _⟩ (fun r1 hp => ?_)
  have h := h r1 hp
  exact k_zretP hx hb hr hlocks dP_isKind_6 h.1 h.2
abbrev rm_F_isFull : Room := { frames := 0, cells := 0, slots := 0, locals := 0 }
set_option maxHeartbeats 4000000 in
set_option maxRecDepth 100000 in
theorem c_F_isFull (l : Launch) (dC : Nat → ClassId) (dI : Nat → Nat → Nat) (ad : Nat → Nat) (kc : Nat → ClassId) (nn : Nat → Nat) (σ : kM) {P : Int → Prop} (h : wp_F_isFull nn σ P) : kMp l y_F_isFull ws_F_isFull rm_F_isFull (dC, dI) vwC (tyC kc) (wC ad kc nn) nsG σ [.ref (ad 4)] P := by
  refine k_enterP (cc := b_F_isFull) (maxL := 1) (ret := (some .boolean)) (by decide) rfl (Nat.le_of_ble_eq_true rfl) ?_
  intro p e s m below meth c ls S hr hlocks hP hK hN hl
  generalize ([.ref (ad 4)] : List Value).toArray = args at S ⊢
  obtain ⟨hx, hb, hml, hown, hts⟩ := id S
  have hl : lv_has ls 1 [(0, .ref (ad 4))] := hl
  unfold wp_F_isFull at h
  refine lv_aload_n hx hb dF_isFull_0 rfl (lv_at hl 0 rfl) ?_
  refine k_get (ci := 4) (C := R_F) (T := T_F) (N := 4) hx hb hts (fun w q => gG_in (inG_F w q)) hown hK hP 4 rfl rfl 3 (by decide) (hts _ (gG_in mw_132)) rfl dF_isFull_1 ?_
  refine lv_bipush (v := iI 16) hx hb dF_isFull_4 (by decide) ?_
  obtain ⟨q1, h⟩ := h
  obtain ⟨ht, hf⟩ := h
  refine ki_icmp_lt (tgt := 13) hx hb dF_isFull_6 (by decide) q1 (by constructor <;> decide) (fun c1 => ?_) (fun c1 => ?_)
  · have h := ht c1
    refine lv_iconst (v := iI 0) hx hb dF_isFull_13 rfl ?_
    exact k_zretP hx hb hr hlocks dF_isFull_14 (by decide) h
  · have h := hf c1
    refine lv_iconst (v := iI 1) hx hb dF_isFull_9 rfl ?_
    refine lv_goto (tgt := 14) hx hb dF_isFull_10 (by decide) ?_
    exact k_zretP hx hb hr hlocks dF_isFull_14 (by decide) h
abbrev rm_F_add : Room := { frames := 0, cells := 0, slots := 0, locals := 0 }
set_option maxHeartbeats 4000000 in
set_option maxRecDepth 100000 in
theorem c_F_add (l : Launch) (dC : Nat → ClassId) (dI : Nat → Nat → Nat) (ad : Nat → Nat) (kc : Nat → ClassId) (nn : Nat → Nat) (σ : kM) (p0 : Int) (p1 : Int) (p2 : Int) {P : Int → kM → Prop} (h : wp_F_add nn σ p0 p1 p2 P) : kMi l y_F_add ws_F_add rm_F_add (dC, dI) vwC (tyC kc) (wC ad kc nn) nsG σ [.ref (ad 4), .int (iI p0), .int (iI p1), .int (iI p2)] P := by
  intro sz
  refine k_enter (cc := b_F_add) (maxL := 4) (ret := (some .int)) (by decide) rfl (Nat.le_of_ble_eq_true rfl) ?_
  intro p e s m below meth c ls S hr hlocks hsz hA hW hK hN hl
  generalize va_A ((wC ad kc nn) σ) sz = A at hA hW ⊢
  generalize ([.ref (ad 4), .int (iI p0), .int (iI p1), .int (iI p2)] : List Value).toArray = args at S ⊢
  obtain ⟨hx, hb, hml, hown, hts⟩ := id S
  have hl : lv_has ls 4 [(0, .ref (ad 4)), (1, .int (iI p0)), (2, .int (iI p1)), (3, .int (iI p2))] := hl
  unfold wp_F_add at h
  refine lv_aload_n hx hb dF_add_0 rfl (lv_at hl 0 rfl) ?_
  refine k_get (ci := 4) (C := R_F) (T := T_F) (N := 4) hx hb hts (fun w q => gG_in (inG_F w q)) hown hK hW.1 4 rfl rfl 0 (by decide) (hts _ (gG_in mw_129)) rfl dF_add_1 ?_
  refine lv_aload_n hx hb dF_add_4 rfl (lv_at hl 0 rfl) ?_
  refine k_get (ci := 4) (C := R_F) (T := T_F) (N := 4) hx hb hts (fun w q => gG_in (inG_F w q)) hown hK hW.1 4 rfl rfl 3 (by decide) (hts _ (gG_in mw_132)) rfl dF_add_5 ?_
  refine lv_iload_n hx hb dF_add_8 rfl (lv_at hl 1 rfl) ?_
  obtain ⟨q1, h⟩ := h
  obtain ⟨s1, es1⟩ : ∃ z : kM, z = va_up σ 13 (va_up (σ 13) (σ 4 3).toNat p0) := ⟨_, rfl⟩
  refine k_iast (ws' := wC ad kc nn s1) hx hb hK hW 13 5 (σ 13) rfl rfl q1 (by rw [es1]; exact wC_a13 ..) dF_add_9 (fun H locs hW => ?_)
  have h := h s1 es1
  refine lv_aload_n hx hb dF_add_10 rfl (lv_at hl 0 rfl) ?_
  refine k_get (ci := 4) (C := R_F) (T := T_F) (N := 4) hx hb hts (fun w q => gG_in (inG_F w q)) hown hK hW.1 4 rfl rfl 1 (by decide) (hts _ (gG_in mw_130)) rfl dF_add_11 ?_
  refine lv_aload_n hx hb dF_add_14 rfl (lv_at hl 0 rfl) ?_
  refine k_get (ci := 4) (C := R_F) (T := T_F) (N := 4) hx hb hts (fun w q => gG_in (inG_F w q)) hown hK hW.1 4 rfl rfl 3 (by decide) (hts _ (gG_in mw_132)) rfl dF_add_15 ?_
  refine lv_iload_n hx hb dF_add_18 rfl (lv_at hl 2 rfl) ?_
  obtain ⟨q2, h⟩ := h
  obtain ⟨s2, es2⟩ : ∃ z : kM, z = va_up s1 14 (va_up (s1 14) (s1 4 3).toNat p1) := ⟨_, rfl⟩
  refine k_iast (ws' := wC ad kc nn s2) hx hb hK hW 14 6 (s1 14) rfl rfl q2 (by rw [es2]; exact wC_a14 ..) dF_add_19 (fun H locs hW => ?_)
  have h := h s2 es2
  refine lv_aload_n hx hb dF_add_20 rfl (lv_at hl 0 rfl) ?_
  refine k_get (ci := 4) (C := R_F) (T := T_F) (N := 4) hx hb hts (fun w q => gG_in (inG_F w q)) hown hK hW.1 4 rfl rfl 2 (by decide) (hts _ (gG_in mw_131)) rfl dF_add_21 ?_
  refine lv_aload_n hx hb dF_add_24 rfl (lv_at hl 0 rfl) ?_
  refine k_get (ci := 4) (C := R_F) (T := T_F) (N := 4) hx hb hts (fun w q => gG_in (inG_F w q)) hown hK hW.1 4 rfl rfl 3 (by decide) (hts _ (gG_in mw_132)) rfl dF_add_25 ?_
  refine lv_iload_n hx hb dF_add_28 rfl (lv_at hl 3 rfl) ?_
  obtain ⟨q3, h⟩ := h
  obtain ⟨s3, es3⟩ : ∃ z : kM, z = va_up s2 15 (va_up (s2 15) (s2 4 3).toNat p2) := ⟨_, rfl⟩
  refine k_iast (ws' := wC ad kc nn s3) hx hb hK hW 15 7 (s2 15) rfl rfl q3 (by rw [es3]; exact wC_a15 ..) dF_add_29 (fun H locs hW => ?_)
  have h := h s3 es3
  refine lv_aload_n hx hb dF_add_30 rfl (lv_at hl 0 rfl) ?_
  refine lv_dup hx hb dF_add_31 rfl ?_
  refine k_get (ci := 4) (C := R_F) (T := T_F) (N := 4) hx hb hts (fun w q => gG_in (inG_F w q)) hown hK hW.1 4 rfl rfl 3 (by decide) (hts _ (gG_in mw_132)) rfl dF_add_32 ?_
  refine lv_iconst (v := iI 1) hx hb dF_add_35 rfl ?_
  refine ki_add hx hb dF_add_36 ?_
  obtain ⟨s4, es4⟩ : ∃ z : kM, z = va_up s3 4 (va_up (s3 4) 3 ((s3 4 3) + 1)) := ⟨_, rfl⟩
  refine k_put (ty := .int) (ws' := wC ad kc nn s4) (ci := 4) (C := R_F) (T := T_F) (N := 4) hx hb hts (fun w q => gG_in (inG_F w q)) ty_F tk_F nm_F hown hK hW 4 rfl rfl 3 (by decide) (hts _ (gG_in mw_132)) rfl (by decide +kernel) rfl rfl (Nat.le_of_ble_eq_true rfl) (by rw [es4]; exact wC_p4_3 ..) dF_add_37 (fun H locs hW => ?_)
  have h := h s4 es4
  refine lv_aload_n hx hb dF_add_40 rfl (lv_at hl 0 rfl) ?_
  refine k_get (ci := 4) (C := R_F) (T := T_F) (N := 4) hx hb hts (fun w q => gG_in (inG_F w q)) hown hK hW.1 4 rfl rfl 3 (by decide) (hts _ (gG_in mw_132)) rfl dF_add_41 ?_
  refine lv_iconst (v := iI 1) hx hb dF_add_44 rfl ?_
  refine ki_sub hx hb dF_add_45 ?_
  exact k_iret hx hb hr hlocks hW dF_add_46 h
abbrev rm_P_fault : Room := { frames := 6, cells := 0, slots := 0, locals := 82 }
set_option maxHeartbeats 4000000 in
set_option maxRecDepth 100000 in
theorem c_P_fault (l : Launch) (dC : Nat → ClassId) (dI : Nat → Nat → Nat) (ad : Nat → Nat) (kc : Nat → ClassId) (nn : Nat → Nat) (σ : kM) (p0 : Int) (p1 : Int) (p2 : Int) {P : Int → kM → Prop} (h : wp_P_fault nn σ p0 p1 p2 P (fun _ _ => False)) : kMi l y_P_fault ws_P_fault rm_P_fault (dC, dI) vwC (tyC kc) (wC ad kc nn) nsG σ [.ref (ad 0), .int (iI p0), .int (iI p1), .int (iI p2)] P := by
  intro sz
  refine k_enter (cc := b_P_fault) (maxL := 4) (ret := (some .int)) (by decide) rfl (Nat.le_of_ble_eq_true rfl) ?_
  intro p e s m below meth c ls S hr hlocks hsz hA hW hK hN hl
  generalize va_A ((wC ad kc nn) σ) sz = A at hA hW ⊢
  generalize ([.ref (ad 0), .int (iI p0), .int (iI p1), .int (iI p2)] : List Value).toArray = args at S ⊢
  obtain ⟨hx, hb, hml, hown, hts⟩ := id S
  have hl : lv_has ls 4 [(0, .ref (ad 0)), (1, .int (iI p0)), (2, .int (iI p1)), (3, .int (iI p2))] := hl
  unfold wp_P_fault at h
  refine lv_iload_n hx hb dP_fault_0 rfl (lv_at hl 1 rfl) ?_
  refine lv_iconst (v := iI 0) hx hb dP_fault_1 rfl ?_
  refine lv_sipush (v := iI 359) hx hb dP_fault_2 (by decide) ?_
  obtain ⟨P1, g1, h⟩ := h
  refine kc_sp (As := [.int (iI p0), .int (iI 0), .int (iI 359)]) (rest := []) S (c_P_isWithin l dC dI (tyC kc) (wC ad kc nn) nn σ p0 0 359 g1) (cwS 3 hts (gS mw_425 mw_332 mw_1 k_P_isWithin) rfl rfl rfl (by decide +kernel) ⟨Nat.le_of_ble_eq_true rfl, Nat.le_of_ble_eq_true rfl⟩) hK hN hW.1 rfl hl.1 rfl (Nat.le_of_ble_eq_true rfl) dP_fault_5 ⟨Nat.zero_le _, Nat.zero_le _⟩ (fun r1 hp => ?_)
  have h := h r1 hp
  obtain ⟨q1, h⟩ := h
  obtain ⟨ht, hf⟩ := h
  refine ki_if_eq (tgt := 29) hx hb dP_fault_8 (by decide) q1 (fun c1 => ?_) (fun c1 => ?_)
  · have h := ht c1
    exact False.elim h
  · have h := hf c1
    refine lv_iload_n hx hb dP_fault_11 rfl (lv_at hl 2 rfl) ?_
    refine lv_iconst (v := iI 0) hx hb dP_fault_12 rfl ?_
    refine lv_sipush (v := iI 1000) hx hb dP_fault_13 (by decide) ?_
    obtain ⟨P2, g2, h⟩ := h
    refine kc_sp (As := [.int (iI p1), .int (iI 0), .int (iI 1000)]) (rest := []) S (c_P_isWithin l dC dI (tyC kc) (wC ad kc nn) nn σ p1 0 1000 g2) (cwS 3 hts (gS mw_425 mw_332 mw_1 k_P_isWithin) rfl rfl rfl (by decide +kernel) ⟨Nat.le_of_ble_eq_true rfl, Nat.le_of_ble_eq_true rfl⟩) hK hN hW.1 rfl hl.1 rfl (Nat.le_of_ble_eq_true rfl) dP_fault_16 ⟨Nat.zero_le _, Nat.zero_le _⟩ (fun r2 hp => ?_)
    have h := h r2 hp
    obtain ⟨q2, h⟩ := h
    obtain ⟨ht, hf⟩ := h
    refine ki_if_eq (tgt := 29) hx hb dP_fault_19 (by decide) q2 (fun c2 => ?_) (fun c2 => ?_)
    · have h := ht c2
      exact False.elim h
    · have h := hf c2
      refine lv_iload_n hx hb dP_fault_22 rfl (lv_at hl 3 rfl) ?_
      obtain ⟨P3, g3, h⟩ := h
      refine kc_sp (As := [.int (iI p2)]) (rest := []) S (c_P_isKind l dC dI (tyC kc) (wC ad kc nn) nn σ p2 g3) (cwS 1 hts (gS mw_523 mw_524 mw_1 k_P_isKind) rfl rfl rfl (by decide +kernel) ⟨Nat.le_of_ble_eq_true rfl, Nat.le_of_ble_eq_true rfl⟩) hK hN hW.1 rfl hl.1 rfl (Nat.le_of_ble_eq_true rfl) dP_fault_23 ⟨Nat.zero_le _, Nat.zero_le _⟩ (fun r3 hp => ?_)
      have h := h r3 hp
      obtain ⟨q3, h⟩ := h
      obtain ⟨ht, hf⟩ := h
      refine ki_if_ne (tgt := 39) hx hb dP_fault_26 (by decide) q3 (fun c3 => ?_) (fun c3 => ?_)
      · have h := ht c3
        refine lv_aload_n hx hb dP_fault_39 rfl (lv_at hl 0 rfl) ?_
        refine k_get (ci := 0) (C := R_P) (T := T_P) (N := 7) hx hb hts (fun w q => gG_in (inG_P w q)) hown hK hW.1 0 rfl rfl 3 (by decide) (hts _ (gG_in mw_218)) rfl dP_fault_40 ?_
        obtain ⟨P4, g4, h⟩ := h
        refine kc_vp (As := []) (rest := []) (ci := 4) (q0 := 4) S (c_F_isFull l dC dI ad kc nn σ g4) (cwV 0 hts (gV mw_527 mw_528 mw_529 mw_6 k_F_isFull) rfl rfl rfl (by decide +kernel) ⟨Nat.le_of_ble_eq_true rfl, Nat.le_of_ble_eq_true rfl⟩) hK hN hW.1 rfl rfl rfl hl.1 rfl (Nat.le_of_ble_eq_true rfl) dP_fault_43 ⟨Nat.zero_le _, Nat.zero_le _⟩ (fun r4 hp => ?_)
        have h := h r4 hp
        obtain ⟨q4, h⟩ := h
        obtain ⟨ht, hf⟩ := h
        refine ki_if_eq (tgt := 59) hx hb dP_fault_46 (by decide) q4 (fun c4 => ?_) (fun c4 => ?_)
        · have h := ht c4
          refine lv_aload_n hx hb dP_fault_59 rfl (lv_at hl 0 rfl) ?_
          refine k_get (ci := 0) (C := R_P) (T := T_P) (N := 7) hx hb hts (fun w q => gG_in (inG_P w q)) hown hK hW.1 0 rfl rfl 5 (by decide) (hts _ (gG_in mw_220)) rfl dP_fault_60 ?_
          obtain ⟨P5, g5, h⟩ := h
          refine kc_vv (As := []) (rest := []) (ci := 6) (q0 := 6) S (c_C_forget l dC dI ad kc nn σ g5) (cwV 0 hts (gV mw_414 mw_415 mw_416 mw_8 k_C_forget) rfl rfl rfl (by decide +kernel) ⟨Nat.le_of_ble_eq_true rfl, Nat.le_of_ble_eq_true rfl⟩) hK hN hA hW (fun _ => rfl) rfl rfl rfl hl.1 rfl (Nat.le_of_ble_eq_true rfl) dP_fault_63 ⟨Nat.zero_le _, Nat.zero_le _⟩ (fun s1 H locs hp hW => ?_)
          have h := h s1 hp
          refine lv_aload_n hx hb dP_fault_66 rfl (lv_at hl 0 rfl) ?_
          refine k_get (ci := 0) (C := R_P) (T := T_P) (N := 7) hx hb hts (fun w q => gG_in (inG_P w q)) hown hK hW.1 0 rfl rfl 3 (by decide) (hts _ (gG_in mw_218)) rfl dP_fault_67 ?_
          refine lv_iload_n hx hb dP_fault_70 rfl (lv_at hl 1 rfl) ?_
          refine lv_iload_n hx hb dP_fault_71 rfl (lv_at hl 2 rfl) ?_
          refine lv_iload_n hx hb dP_fault_72 rfl (lv_at hl 3 rfl) ?_
          obtain ⟨P6, g6, h⟩ := h
          refine kc_vi (As := [.int (iI p0), .int (iI p1), .int (iI p2)]) (rest := []) (ci := 4) (q0 := 4) S (c_F_add l dC dI ad kc nn s1 p0 p1 p2 g6) (cwV 3 hts (gV mw_532 mw_533 mw_534 mw_6 k_F_add) rfl rfl rfl (by decide +kernel) ⟨Nat.le_of_ble_eq_true rfl, Nat.le_of_ble_eq_true rfl⟩) hK hN hA hW (fun _ => rfl) rfl rfl rfl hl.1 rfl (Nat.le_of_ble_eq_true rfl) dP_fault_73 ⟨Nat.zero_le _, Nat.zero_le _⟩ (fun r5 s2 H locs hp hW => ?_)
          have h := h r5 s2 hp
          exact k_iret hx hb hr hlocks hW dP_fault_76 h
        · have h := hf c4
          exact False.elim h
      · have h := hf c3
        exact False.elim h
abbrev rm_F_has : Room := { frames := 1, cells := 0, slots := 0, locals := 22 }
set_option maxHeartbeats 4000000 in
set_option maxRecDepth 100000 in
theorem c_F_has (l : Launch) (dC : Nat → ClassId) (dI : Nat → Nat → Nat) (ad : Nat → Nat) (kc : Nat → ClassId) (nn : Nat → Nat) (σ : kM) (p0 : Int) {P : Int → Prop} (h : wp_F_has nn σ p0 P) : kMp l y_F_has ws_F_has rm_F_has (dC, dI) vwC (tyC kc) (wC ad kc nn) nsG σ [.ref (ad 4), .int (iI p0)] P := by
  refine k_enterP (cc := b_F_has) (maxL := 2) (ret := (some .boolean)) (by decide) rfl (Nat.le_of_ble_eq_true rfl) ?_
  intro p e s m below meth c ls S hr hlocks hP hK hN hl
  generalize ([.ref (ad 4), .int (iI p0)] : List Value).toArray = args at S ⊢
  obtain ⟨hx, hb, hml, hown, hts⟩ := id S
  have hl : lv_has ls 2 [(0, .ref (ad 4)), (1, .int (iI p0))] := hl
  unfold wp_F_has at h
  refine lv_iload_n hx hb dF_has_0 rfl (lv_at hl 1 rfl) ?_
  refine lv_iconst (v := iI 0) hx hb dF_has_1 rfl ?_
  refine lv_aload_n hx hb dF_has_2 rfl (lv_at hl 0 rfl) ?_
  refine k_get (ci := 4) (C := R_F) (T := T_F) (N := 4) hx hb hts (fun w q => gG_in (inG_F w q)) hown hK hP 4 rfl rfl 3 (by decide) (hts _ (gG_in mw_132)) rfl dF_has_3 ?_
  refine lv_iconst (v := iI 1) hx hb dF_has_6 rfl ?_
  refine ki_sub hx hb dF_has_7 ?_
  obtain ⟨P1, g1, h⟩ := h
  refine kc_np (As := [.int (iI p0), .int (iI 0), .int (iI ((σ 4 3) - 1))]) (rest := []) S (c_P_isWithin l dC dI (tyC kc) (wC ad kc nn) nn σ p0 0 ((σ 4 3) - 1) g1) ⟨va_cnB 3 hts (gG_good k_P_isWithin) rfl rfl rfl (hN _ (List.mem_of_getElem? (i := 6) rfl)) (hts _ (gG_in mw_1)) (by decide +kernel) ⟨Nat.le_of_ble_eq_true rfl, Nat.le_of_ble_eq_true rfl⟩, hts _ (gG_in mw_332), trivial⟩ hK hN hP rfl hl.1 rfl (Nat.le_of_ble_eq_true rfl) dF_has_8 ⟨Nat.zero_le _, Nat.zero_le _⟩ (fun r1 hp => ?_)
  have h := h r1 hp
  exact k_zretP hx hb hr hlocks dF_has_11 h.1 h.2
abbrev rm_R_placeOf : Room := { frames := 2, cells := 0, slots := 0, locals := 42 }
set_option maxHeartbeats 4000000 in
set_option maxRecDepth 100000 in
theorem c_R_placeOf (l : Launch) (dC : Nat → ClassId) (dI : Nat → Nat → Nat) (ad : Nat → Nat) (kc : Nat → ClassId) (nn : Nat → Nat) (σ : kM) (p0 : Int) (p1 : Int) {P : Int → Prop} (h : wp_R_placeOf nn σ p0 p1 P) : kMp l y_R_placeOf ws_R_placeOf rm_R_placeOf (dC, dI) vwC (tyC kc) (wC ad kc nn) nsG σ [.ref (ad 3), .int (iI p0), .int (iI p1)] P := by
  refine k_enterP (cc := b_R_placeOf) (maxL := 4) (ret := (some .int)) (by decide) rfl (Nat.le_of_ble_eq_true rfl) ?_
  intro p e s m below meth c ls S hr hlocks hP hK hN hl
  generalize ([.ref (ad 3), .int (iI p0), .int (iI p1)] : List Value).toArray = args at S ⊢
  obtain ⟨hx, hb, hml, hown, hts⟩ := id S
  have hl : lv_has ls 4 [(0, .ref (ad 3)), (1, .int (iI p0)), (2, .int (iI p1))] := hl
  unfold wp_R_placeOf at h
  refine lv_iload_n hx hb dR_placeOf_0 rfl (lv_at hl 2 rfl) ?_
  refine lv_aload_n hx hb dR_placeOf_1 rfl (lv_at hl 0 rfl) ?_
  refine k_get (ci := 3) (C := R_R) (T := T_R) (N := 4) hx hb hts (fun w q => gG_in (inG_R w q)) hown hK hP 3 rfl rfl 1 (by decide) (hts _ (gG_in mw_111)) rfl dR_placeOf_2 ?_
  obtain ⟨q1, h⟩ := h
  obtain ⟨q2, h⟩ := h
  obtain ⟨ht, hf⟩ := h
  refine ki_icmp_gt (tgt := 26) hx hb dR_placeOf_5 (by decide) q1 q2 (fun c1 => ?_) (fun c1 => ?_)
  · have h := ht c1
    refine lv_iconst (v := iI (-1)) hx hb dR_placeOf_26 rfl ?_
    exact k_iretP hx hb hr hlocks dR_placeOf_27 h
  · have h := hf c1
    refine lv_iload_n hx hb dR_placeOf_8 rfl (lv_at hl 2 rfl) ?_
    refine lv_aload_n hx hb dR_placeOf_9 rfl (lv_at hl 0 rfl) ?_
    refine k_get (ci := 3) (C := R_R) (T := T_R) (N := 4) hx hb hts (fun w q => gG_in (inG_R w q)) hown hK hP 3 rfl rfl 1 (by decide) (hts _ (gG_in mw_111)) rfl dR_placeOf_10 ?_
    refine lv_aload_n hx hb dR_placeOf_13 rfl (lv_at hl 0 rfl) ?_
    refine k_get (ci := 3) (C := R_R) (T := T_R) (N := 4) hx hb hts (fun w q => gG_in (inG_R w q)) hown hK hP 3 rfl rfl 3 (by decide) (hts _ (gG_in mw_113)) rfl dR_placeOf_14 ?_
    refine lv_aload_n hx hb dR_placeOf_17 rfl (lv_at hl 0 rfl) ?_
    refine k_get (ci := 3) (C := R_R) (T := T_R) (N := 4) hx hb hts (fun w q => gG_in (inG_R w q)) hown hK hP 3 rfl rfl 2 (by decide) (hts _ (gG_in mw_112)) rfl dR_placeOf_18 ?_
    refine ki_mul hx hb dR_placeOf_21 ?_
    refine ki_sub hx hb dR_placeOf_22 ?_
    obtain ⟨q3, h⟩ := h
    obtain ⟨q4, h⟩ := h
    obtain ⟨ht, hf⟩ := h
    refine ki_icmp_gt (tgt := 28) hx hb dR_placeOf_23 (by decide) q3 q4 (fun c2 => ?_) (fun c2 => ?_)
    · have h := ht c2
      refine lv_aload_n hx hb dR_placeOf_28 rfl (lv_at hl 0 rfl) ?_
      refine k_get (ci := 3) (C := R_R) (T := T_R) (N := 4) hx hb hts (fun w q => gG_in (inG_R w q)) hown hK hP 3 rfl rfl 1 (by decide) (hts _ (gG_in mw_111)) rfl dR_placeOf_29 ?_
      refine lv_iload_n hx hb dR_placeOf_32 rfl (lv_at hl 2 rfl) ?_
      refine ki_sub hx hb dR_placeOf_33 ?_
      refine lv_aload_n hx hb dR_placeOf_34 rfl (lv_at hl 0 rfl) ?_
      refine k_get (ci := 3) (C := R_R) (T := T_R) (N := 4) hx hb hts (fun w q => gG_in (inG_R w q)) hown hK hP 3 rfl rfl 2 (by decide) (hts _ (gG_in mw_112)) rfl dR_placeOf_35 ?_
      obtain ⟨q5, h⟩ := h
      refine ki_div hx hb dR_placeOf_38 q5 ?_
      refine ki_nm (fun v1 ev1 => ?_)
      have h := h v1 ev1
      refine lv_istore_n (lv' := [(3, .int (iI v1)), (0, .ref (ad 3)), (1, .int (iI p0)), (2, .int (iI p1))]) hx hb dR_placeOf_39 rfl hl (by decide) rfl (fun ls hl => ?_)
      refine lv_aload_n hx hb dR_placeOf_40 rfl (lv_at hl 1 rfl) ?_
      refine lv_iload_n hx hb dR_placeOf_41 rfl (lv_at hl 0 rfl) ?_
      obtain ⟨P1, g1, h⟩ := h
      refine kc_vp (As := [.int (iI v1)]) (rest := []) (ci := 3) (q0 := 3) S (c_R_lengthBefore l dC dI ad kc nn σ v1 g1) (cwV 1 hts (gV mw_557 mw_510 mw_511 mw_5 k_R_lengthBefore) rfl rfl rfl (by decide +kernel) ⟨Nat.le_of_ble_eq_true rfl, Nat.le_of_ble_eq_true rfl⟩) hK hN hP rfl rfl rfl hl.1 rfl (Nat.le_of_ble_eq_true rfl) dR_placeOf_42 ⟨Nat.zero_le _, Nat.zero_le _⟩ (fun r1 hp => ?_)
      have h := h r1 hp
      refine lv_aload_n hx hb dR_placeOf_45 rfl (lv_at hl 1 rfl) ?_
      refine k_get (ci := 3) (C := R_R) (T := T_R) (N := 4) hx hb hts (fun w q => gG_in (inG_R w q)) hown hK hP 3 rfl rfl 1 (by decide) (hts _ (gG_in mw_111)) rfl dR_placeOf_46 ?_
      refine lv_iload_n hx hb dR_placeOf_49 rfl (lv_at hl 0 rfl) ?_
      refine lv_aload_n hx hb dR_placeOf_50 rfl (lv_at hl 1 rfl) ?_
      refine k_get (ci := 3) (C := R_R) (T := T_R) (N := 4) hx hb hts (fun w q => gG_in (inG_R w q)) hown hK hP 3 rfl rfl 2 (by decide) (hts _ (gG_in mw_112)) rfl dR_placeOf_51 ?_
      refine ki_mul hx hb dR_placeOf_54 ?_
      refine ki_sub hx hb dR_placeOf_55 ?_
      obtain ⟨P2, g2, h⟩ := h
      refine kc_sp (As := [.int (iI ((σ 3 1) - (v1 * (σ 3 2))))]) (rest := [.int (iI r1)]) S (c_R_roundOf l dC dI (tyC kc) (wC ad kc nn) nn σ ((σ 3 1) - (v1 * (σ 3 2))) g2) (cwS 1 hts (gS mw_513 mw_514 mw_5 k_R_roundOf) rfl rfl rfl (by decide +kernel) ⟨Nat.le_of_ble_eq_true rfl, Nat.le_of_ble_eq_true rfl⟩) hK hN hP rfl hl.1 rfl (Nat.le_of_ble_eq_true rfl) dR_placeOf_56 ⟨Nat.zero_le _, Nat.zero_le _⟩ (fun r2 hp => ?_)
      have h := h r2 hp
      refine lv_iload_n hx hb dR_placeOf_59 rfl (lv_at hl 2 rfl) ?_
      refine ki_mul hx hb dR_placeOf_60 ?_
      refine lv_sipush (v := iI 360) hx hb dR_placeOf_61 (by decide) ?_
      obtain ⟨q6, h⟩ := h
      refine ki_div hx hb dR_placeOf_64 ⟨q6.1, by constructor <;> decide, q6.2, by decide⟩ ?_
      refine ki_add hx hb dR_placeOf_65 ?_
      exact k_iretP hx hb hr hlocks dR_placeOf_66 h
    · have h := hf c2
      refine lv_iconst (v := iI (-1)) hx hb dR_placeOf_26 rfl ?_
      exact k_iretP hx hb hr hlocks dR_placeOf_27 h
abbrev rm_F_placeIn : Room := { frames := 3, cells := 0, slots := 0, locals := 65 }
set_option maxHeartbeats 4000000 in
set_option maxRecDepth 100000 in
theorem c_F_placeIn (l : Launch) (dC : Nat → ClassId) (dI : Nat → Nat → Nat) (ad : Nat → Nat) (kc : Nat → ClassId) (nn : Nat → Nat) (σ : kM) (p1 : Int) {P : Int → Prop} (h : wp_F_placeIn nn σ p1 P) : kMp l y_F_placeIn ws_F_placeIn rm_F_placeIn (dC, dI) vwC (tyC kc) (wC ad kc nn) nsG σ [.ref (ad 4), .ref (ad 3), .int (iI p1)] P := by
  refine k_enterP (cc := b_F_placeIn) (maxL := 3) (ret := (some .int)) (by decide) rfl (Nat.le_of_ble_eq_true rfl) ?_
  intro p e s m below meth c ls S hr hlocks hP hK hN hl
  generalize ([.ref (ad 4), .ref (ad 3), .int (iI p1)] : List Value).toArray = args at S ⊢
  obtain ⟨hx, hb, hml, hown, hts⟩ := id S
  have hl : lv_has ls 3 [(0, .ref (ad 4)), (1, .ref (ad 3)), (2, .int (iI p1))] := hl
  unfold wp_F_placeIn at h
  refine lv_aload_n hx hb dF_placeIn_0 rfl (lv_at hl 1 rfl) ?_
  refine lv_aload_n hx hb dF_placeIn_1 rfl (lv_at hl 0 rfl) ?_
  refine k_get (ci := 4) (C := R_F) (T := T_F) (N := 4) hx hb hts (fun w q => gG_in (inG_F w q)) hown hK hP 4 rfl rfl 0 (by decide) (hts _ (gG_in mw_129)) rfl dF_placeIn_2 ?_
  refine lv_iload_n hx hb dF_placeIn_5 rfl (lv_at hl 2 rfl) ?_
  obtain ⟨q1, h⟩ := h
  refine k_iald hx hb hK hP 13 5 (σ 13) rfl rfl q1 dF_placeIn_6 ?_
  refine lv_aload_n hx hb dF_placeIn_7 rfl (lv_at hl 0 rfl) ?_
  refine k_get (ci := 4) (C := R_F) (T := T_F) (N := 4) hx hb hts (fun w q => gG_in (inG_F w q)) hown hK hP 4 rfl rfl 1 (by decide) (hts _ (gG_in mw_130)) rfl dF_placeIn_8 ?_
  refine lv_iload_n hx hb dF_placeIn_11 rfl (lv_at hl 2 rfl) ?_
  obtain ⟨q2, h⟩ := h
  refine k_iald hx hb hK hP 14 6 (σ 14) rfl rfl q2 dF_placeIn_12 ?_
  obtain ⟨P1, g1, h⟩ := h
  refine kc_vp (As := [.int (iI (σ 13 p1.toNat)), .int (iI (σ 14 p1.toNat))]) (rest := []) (ci := 3) (q0 := 3) S (c_R_placeOf l dC dI ad kc nn σ (σ 13 p1.toNat) (σ 14 p1.toNat) g1) (cwV 2 hts (gV mw_553 mw_554 mw_555 mw_5 k_R_placeOf) rfl rfl rfl (by decide +kernel) ⟨Nat.le_of_ble_eq_true rfl, Nat.le_of_ble_eq_true rfl⟩) hK hN hP rfl rfl rfl hl.1 rfl (Nat.le_of_ble_eq_true rfl) dF_placeIn_13 ⟨Nat.zero_le _, Nat.zero_le _⟩ (fun r1 hp => ?_)
  have h := h r1 hp
  exact k_iretP hx hb hr hlocks dF_placeIn_16 h
abbrev rm_P_unrolled : Room := { frames := 6, cells := 0, slots := 0, locals := 87 }
set_option maxHeartbeats 4000000 in
set_option maxRecDepth 100000 in
theorem c_P_unrolled (l : Launch) (dC : Nat → ClassId) (dI : Nat → Nat → Nat) (ad : Nat → Nat) (kc : Nat → ClassId) (nn : Nat → Nat) (σ : kM) (p0 : Int) {P : Int → kM → Prop} (h : wp_P_unrolled nn σ p0 P (fun _ _ => False)) : kMi l y_P_unrolled ws_P_unrolled rm_P_unrolled (dC, dI) vwC (tyC kc) (wC ad kc nn) nsG σ [.ref (ad 0), .int (iI p0)] P := by
  intro sz
  refine k_enter (cc := b_P_unrolled) (maxL := 2) (ret := (some .int)) (by decide) rfl (Nat.le_of_ble_eq_true rfl) ?_
  intro p e s m below meth c ls S hr hlocks hsz hA hW hK hN hl
  generalize va_A ((wC ad kc nn) σ) sz = A at hA hW ⊢
  generalize ([.ref (ad 0), .int (iI p0)] : List Value).toArray = args at S ⊢
  obtain ⟨hx, hb, hml, hown, hts⟩ := id S
  have hl : lv_has ls 2 [(0, .ref (ad 0)), (1, .int (iI p0))] := hl
  unfold wp_P_unrolled at h
  refine lv_aload_n hx hb dP_unrolled_0 rfl (lv_at hl 0 rfl) ?_
  refine k_get (ci := 0) (C := R_P) (T := T_P) (N := 7) hx hb hts (fun w q => gG_in (inG_P w q)) hown hK hW.1 0 rfl rfl 3 (by decide) (hts _ (gG_in mw_218)) rfl dP_unrolled_1 ?_
  refine lv_iload_n hx hb dP_unrolled_4 rfl (lv_at hl 1 rfl) ?_
  obtain ⟨P1, g1, h⟩ := h
  refine kc_vp (As := [.int (iI p0)]) (rest := []) (ci := 4) (q0 := 4) S (c_F_has l dC dI ad kc nn σ p0 g1) (cwV 1 hts (gV mw_543 mw_544 mw_545 mw_6 k_F_has) rfl rfl rfl (by decide +kernel) ⟨Nat.le_of_ble_eq_true rfl, Nat.le_of_ble_eq_true rfl⟩) hK hN hW.1 rfl rfl rfl hl.1 rfl (Nat.le_of_ble_eq_true rfl) dP_unrolled_5 ⟨Nat.zero_le _, Nat.zero_le _⟩ (fun r1 hp => ?_)
  have h := h r1 hp
  obtain ⟨q1, h⟩ := h
  obtain ⟨ht, hf⟩ := h
  refine ki_if_ne (tgt := 21) hx hb dP_unrolled_8 (by decide) q1 (fun c1 => ?_) (fun c1 => ?_)
  · have h := ht c1
    refine lv_aload_n hx hb dP_unrolled_21 rfl (lv_at hl 0 rfl) ?_
    refine k_get (ci := 0) (C := R_P) (T := T_P) (N := 7) hx hb hts (fun w q => gG_in (inG_P w q)) hown hK hW.1 0 rfl rfl 2 (by decide) (hts _ (gG_in mw_217)) rfl dP_unrolled_22 ?_
    obtain ⟨P2, g2, h⟩ := h
    refine kc_vp (As := []) (rest := []) (ci := 3) (q0 := 3) S (c_R_isPeeled l dC dI ad kc nn σ g2) (cwV 0 hts (gV mw_488 mw_489 mw_490 mw_5 k_R_isPeeled) rfl rfl rfl (by decide +kernel) ⟨Nat.le_of_ble_eq_true rfl, Nat.le_of_ble_eq_true rfl⟩) hK hN hW.1 rfl rfl rfl hl.1 rfl (Nat.le_of_ble_eq_true rfl) dP_unrolled_25 ⟨Nat.zero_le _, Nat.zero_le _⟩ (fun r2 hp => ?_)
    have h := h r2 hp
    obtain ⟨q2, h⟩ := h
    obtain ⟨ht, hf⟩ := h
    refine ki_if_ne (tgt := 41) hx hb dP_unrolled_28 (by decide) q2 (fun c2 => ?_) (fun c2 => ?_)
    · have h := ht c2
      refine lv_aload_n hx hb dP_unrolled_41 rfl (lv_at hl 0 rfl) ?_
      refine k_get (ci := 0) (C := R_P) (T := T_P) (N := 7) hx hb hts (fun w q => gG_in (inG_P w q)) hown hK hW.1 0 rfl rfl 3 (by decide) (hts _ (gG_in mw_218)) rfl dP_unrolled_42 ?_
      refine lv_aload_n hx hb dP_unrolled_45 rfl (lv_at hl 0 rfl) ?_
      refine k_get (ci := 0) (C := R_P) (T := T_P) (N := 7) hx hb hts (fun w q => gG_in (inG_P w q)) hown hK hW.1 0 rfl rfl 2 (by decide) (hts _ (gG_in mw_217)) rfl dP_unrolled_46 ?_
      refine lv_iload_n hx hb dP_unrolled_49 rfl (lv_at hl 1 rfl) ?_
      obtain ⟨P3, g3, h⟩ := h
      refine kc_vp (As := [.ref (ad 3), .int (iI p0)]) (rest := []) (ci := 4) (q0 := 4) S (c_F_placeIn l dC dI ad kc nn σ p0 g3) (cwV 2 hts (gV mw_549 mw_550 mw_551 mw_6 k_F_placeIn) rfl rfl rfl (by decide +kernel) ⟨Nat.le_of_ble_eq_true rfl, Nat.le_of_ble_eq_true rfl⟩) hK hN hW.1 rfl rfl rfl hl.1 rfl (Nat.le_of_ble_eq_true rfl) dP_unrolled_50 ⟨Nat.zero_le _, Nat.zero_le _⟩ (fun r3 hp => ?_)
      have h := h r3 hp
      exact k_iret hx hb hr hlocks hW dP_unrolled_53 h
    · have h := hf c2
      exact False.elim h
  · have h := hf c1
    exact False.elim h
abbrev rm_L_isFull : Room := { frames := 0, cells := 0, slots := 0, locals := 0 }
set_option maxHeartbeats 4000000 in
set_option maxRecDepth 100000 in
theorem c_L_isFull (l : Launch) (dC : Nat → ClassId) (dI : Nat → Nat → Nat) (ad : Nat → Nat) (kc : Nat → ClassId) (nn : Nat → Nat) (σ : kM) {P : Int → Prop} (h : wp_L_isFull nn σ P) : kMp l y_L_isFull ws_L_isFull rm_L_isFull (dC, dI) vwC (tyC kc) (wC ad kc nn) nsG σ [.ref (ad 5)] P := by
  refine k_enterP (cc := b_L_isFull) (maxL := 1) (ret := (some .boolean)) (by decide) rfl (Nat.le_of_ble_eq_true rfl) ?_
  intro p e s m below meth c ls S hr hlocks hP hK hN hl
  generalize ([.ref (ad 5)] : List Value).toArray = args at S ⊢
  obtain ⟨hx, hb, hml, hown, hts⟩ := id S
  have hl : lv_has ls 1 [(0, .ref (ad 5))] := hl
  unfold wp_L_isFull at h
  refine lv_aload_n hx hb dL_isFull_0 rfl (lv_at hl 0 rfl) ?_
  refine k_get (ci := 5) (C := R_L) (T := T_L) (N := 4) hx hb hts (fun w q => gG_in (inG_L w q)) hown hK hP 5 rfl rfl 3 (by decide) (hts _ (gG_in mw_151)) rfl dL_isFull_1 ?_
  refine lv_bipush (v := iI 6) hx hb dL_isFull_4 (by decide) ?_
  obtain ⟨q1, h⟩ := h
  obtain ⟨ht, hf⟩ := h
  refine ki_icmp_lt (tgt := 13) hx hb dL_isFull_6 (by decide) q1 (by constructor <;> decide) (fun c1 => ?_) (fun c1 => ?_)
  · have h := ht c1
    refine lv_iconst (v := iI 0) hx hb dL_isFull_13 rfl ?_
    exact k_zretP hx hb hr hlocks dL_isFull_14 (by decide) h
  · have h := hf c1
    refine lv_iconst (v := iI 1) hx hb dL_isFull_9 rfl ?_
    refine lv_goto (tgt := 14) hx hb dL_isFull_10 (by decide) ?_
    exact k_zretP hx hb hr hlocks dL_isFull_14 (by decide) h
abbrev rm_L_add : Room := { frames := 0, cells := 0, slots := 0, locals := 0 }
set_option maxHeartbeats 4000000 in
set_option maxRecDepth 100000 in
theorem c_L_add (l : Launch) (dC : Nat → ClassId) (dI : Nat → Nat → Nat) (ad : Nat → Nat) (kc : Nat → ClassId) (nn : Nat → Nat) (σ : kM) (p0 : Int) (p1 : Int) {P : Int → kM → Prop} (h : wp_L_add nn σ p0 p1 P) : kMi l y_L_add ws_L_add rm_L_add (dC, dI) vwC (tyC kc) (wC ad kc nn) nsG σ [.ref (ad 5), .int (iI p0), .int (iI p1)] P := by
  intro sz
  refine k_enter (cc := b_L_add) (maxL := 3) (ret := (some .int)) (by decide) rfl (Nat.le_of_ble_eq_true rfl) ?_
  intro p e s m below meth c ls S hr hlocks hsz hA hW hK hN hl
  generalize va_A ((wC ad kc nn) σ) sz = A at hA hW ⊢
  generalize ([.ref (ad 5), .int (iI p0), .int (iI p1)] : List Value).toArray = args at S ⊢
  obtain ⟨hx, hb, hml, hown, hts⟩ := id S
  have hl : lv_has ls 3 [(0, .ref (ad 5)), (1, .int (iI p0)), (2, .int (iI p1))] := hl
  unfold wp_L_add at h
  refine lv_aload_n hx hb dL_add_0 rfl (lv_at hl 0 rfl) ?_
  refine k_get (ci := 5) (C := R_L) (T := T_L) (N := 4) hx hb hts (fun w q => gG_in (inG_L w q)) hown hK hW.1 5 rfl rfl 0 (by decide) (hts _ (gG_in mw_148)) rfl dL_add_1 ?_
  refine lv_aload_n hx hb dL_add_4 rfl (lv_at hl 0 rfl) ?_
  refine k_get (ci := 5) (C := R_L) (T := T_L) (N := 4) hx hb hts (fun w q => gG_in (inG_L w q)) hown hK hW.1 5 rfl rfl 3 (by decide) (hts _ (gG_in mw_151)) rfl dL_add_5 ?_
  refine lv_iload_n hx hb dL_add_8 rfl (lv_at hl 1 rfl) ?_
  obtain ⟨q1, h⟩ := h
  obtain ⟨s1, es1⟩ : ∃ z : kM, z = va_up σ 16 (va_up (σ 16) (σ 5 3).toNat p0) := ⟨_, rfl⟩
  refine k_iast (ws' := wC ad kc nn s1) hx hb hK hW 16 8 (σ 16) rfl rfl q1 (by rw [es1]; exact wC_a16 ..) dL_add_9 (fun H locs hW => ?_)
  have h := h s1 es1
  refine lv_aload_n hx hb dL_add_10 rfl (lv_at hl 0 rfl) ?_
  refine k_get (ci := 5) (C := R_L) (T := T_L) (N := 4) hx hb hts (fun w q => gG_in (inG_L w q)) hown hK hW.1 5 rfl rfl 1 (by decide) (hts _ (gG_in mw_149)) rfl dL_add_11 ?_
  refine lv_aload_n hx hb dL_add_14 rfl (lv_at hl 0 rfl) ?_
  refine k_get (ci := 5) (C := R_L) (T := T_L) (N := 4) hx hb hts (fun w q => gG_in (inG_L w q)) hown hK hW.1 5 rfl rfl 3 (by decide) (hts _ (gG_in mw_151)) rfl dL_add_15 ?_
  refine lv_iload_n hx hb dL_add_18 rfl (lv_at hl 2 rfl) ?_
  obtain ⟨q2, h⟩ := h
  obtain ⟨s2, es2⟩ : ∃ z : kM, z = va_up s1 17 (va_up (s1 17) (s1 5 3).toNat p1) := ⟨_, rfl⟩
  refine k_iast (ws' := wC ad kc nn s2) hx hb hK hW 17 9 (s1 17) rfl rfl q2 (by rw [es2]; exact wC_a17 ..) dL_add_19 (fun H locs hW => ?_)
  have h := h s2 es2
  refine lv_aload_n hx hb dL_add_20 rfl (lv_at hl 0 rfl) ?_
  refine lv_dup hx hb dL_add_21 rfl ?_
  refine k_get (ci := 5) (C := R_L) (T := T_L) (N := 4) hx hb hts (fun w q => gG_in (inG_L w q)) hown hK hW.1 5 rfl rfl 3 (by decide) (hts _ (gG_in mw_151)) rfl dL_add_22 ?_
  refine lv_iconst (v := iI 1) hx hb dL_add_25 rfl ?_
  refine ki_add hx hb dL_add_26 ?_
  obtain ⟨s3, es3⟩ : ∃ z : kM, z = va_up s2 5 (va_up (s2 5) 3 ((s2 5 3) + 1)) := ⟨_, rfl⟩
  refine k_put (ty := .int) (ws' := wC ad kc nn s3) (ci := 5) (C := R_L) (T := T_L) (N := 4) hx hb hts (fun w q => gG_in (inG_L w q)) ty_L tk_L nm_L hown hK hW 5 rfl rfl 3 (by decide) (hts _ (gG_in mw_151)) rfl (by decide +kernel) rfl rfl (Nat.le_of_ble_eq_true rfl) (by rw [es3]; exact wC_p5_3 ..) dL_add_27 (fun H locs hW => ?_)
  have h := h s3 es3
  refine lv_aload_n hx hb dL_add_30 rfl (lv_at hl 0 rfl) ?_
  refine k_get (ci := 5) (C := R_L) (T := T_L) (N := 4) hx hb hts (fun w q => gG_in (inG_L w q)) hown hK hW.1 5 rfl rfl 3 (by decide) (hts _ (gG_in mw_151)) rfl dL_add_31 ?_
  refine lv_iconst (v := iI 1) hx hb dL_add_34 rfl ?_
  refine ki_sub hx hb dL_add_35 ?_
  exact k_iret hx hb hr hlocks hW dL_add_36 h
