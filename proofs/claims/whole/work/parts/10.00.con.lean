abbrev rm_P_isWithin : Room := { frames := 0, cells := 0, slots := 0, locals := 0 }
set_option maxHeartbeats 4000000 in
set_option maxRecDepth 100000 in
theorem c_P_isWithin (l : Launch) (dC : Nat → ClassId) (dI : Nat → Nat → Nat) (tys : List (ClassId × FieldType)) (w : kM → va_W) (nn : Nat → Nat) (σ : kM) (p0 : Int) (p1 : Int) (p2 : Int) {P : Int → Prop} (h : wp_P_isWithin nn σ p0 p1 p2 P) : kMp l y_P_isWithin ws_P_isWithin rm_P_isWithin (dC, dI) vwC tys w nsG σ [.int (iI p0), .int (iI p1), .int (iI p2)] P := by
  refine k_enterP (cc := b_P_isWithin) (maxL := 3) (ret := (some .boolean)) (by decide) rfl (Nat.le_of_ble_eq_true rfl) ?_
  intro p e s m below meth c ls S hr hlocks hP hK hN hl
  generalize ([.int (iI p0), .int (iI p1), .int (iI p2)] : List Value).toArray = args at S ⊢
  obtain ⟨hx, hb, hml, hown, hts⟩ := id S
  have hl : lv_has ls 3 [(0, .int (iI p0)), (1, .int (iI p1)), (2, .int (iI p2))] := hl
  unfold wp_P_isWithin at h
  refine lv_iload_n hx hb dP_isWithin_0 rfl (lv_at hl 0 rfl) ?_
  refine lv_iload_n hx hb dP_isWithin_1 rfl (lv_at hl 1 rfl) ?_
  obtain ⟨q1, h⟩ := h
  obtain ⟨q2, h⟩ := h
  obtain ⟨ht, hf⟩ := h
  refine ki_icmp_lt (tgt := 14) hx hb dP_isWithin_2 (by decide) q1 q2 (fun c1 => ?_) (fun c1 => ?_)
  · have h := ht c1
    refine lv_iconst (v := iI 0) hx hb dP_isWithin_14 rfl ?_
    exact k_zretP hx hb hr hlocks dP_isWithin_15 (by decide) h
  · have h := hf c1
    refine lv_iload_n hx hb dP_isWithin_5 rfl (lv_at hl 0 rfl) ?_
    refine lv_iload_n hx hb dP_isWithin_6 rfl (lv_at hl 2 rfl) ?_
    obtain ⟨q3, h⟩ := h
    obtain ⟨q4, h⟩ := h
    obtain ⟨ht, hf⟩ := h
    refine ki_icmp_gt (tgt := 14) hx hb dP_isWithin_7 (by decide) q3 q4 (fun c2 => ?_) (fun c2 => ?_)
    · have h := ht c2
      refine lv_iconst (v := iI 0) hx hb dP_isWithin_14 rfl ?_
      exact k_zretP hx hb hr hlocks dP_isWithin_15 (by decide) h
    · have h := hf c2
      refine lv_iconst (v := iI 1) hx hb dP_isWithin_10 rfl ?_
      refine lv_goto (tgt := 15) hx hb dP_isWithin_11 (by decide) ?_
      exact k_zretP hx hb hr hlocks dP_isWithin_15 (by decide) h
abbrev rm_S_hasCell : Room := { frames := 1, cells := 0, slots := 0, locals := 22 }
set_option maxHeartbeats 4000000 in
set_option maxRecDepth 100000 in
theorem c_S_hasCell (l : Launch) (dC : Nat → ClassId) (dI : Nat → Nat → Nat) (ad : Nat → Nat) (kc : Nat → ClassId) (nn : Nat → Nat) (σ : kM) (p0 : Int) (p1 : Int) (p2 : Int) {P : Int → Prop} (h : wp_S_hasCell nn σ p0 p1 p2 P) : kMp l y_S_hasCell ws_S_hasCell rm_S_hasCell (dC, dI) vwC (tyC kc) (wC ad kc nn) nsG σ [.ref (ad 1), .int (iI p0), .int (iI p1), .int (iI p2)] P := by
  refine k_enterP (cc := b_S_hasCell) (maxL := 4) (ret := (some .boolean)) (by decide) rfl (Nat.le_of_ble_eq_true rfl) ?_
  intro p e s m below meth c ls S hr hlocks hP hK hN hl
  generalize ([.ref (ad 1), .int (iI p0), .int (iI p1), .int (iI p2)] : List Value).toArray = args at S ⊢
  obtain ⟨hx, hb, hml, hown, hts⟩ := id S
  have hl : lv_has ls 4 [(0, .ref (ad 1)), (1, .int (iI p0)), (2, .int (iI p1)), (3, .int (iI p2))] := hl
  unfold wp_S_hasCell at h
  refine lv_iload_n hx hb dS_hasCell_0 rfl (lv_at hl 1 rfl) ?_
  refine lv_iconst (v := iI 0) hx hb dS_hasCell_1 rfl ?_
  refine lv_aload_n hx hb dS_hasCell_2 rfl (lv_at hl 0 rfl) ?_
  refine k_get (ci := 1) (C := R_S) (T := T_S) (N := 9) hx hb hts (fun w q => gG_in (inG_S w q)) hown hK hP 1 rfl rfl 0 (by decide) (hts _ (gG_in mw_41)) rfl dS_hasCell_3 ?_
  refine lv_iconst (v := iI 1) hx hb dS_hasCell_6 rfl ?_
  refine ki_sub hx hb dS_hasCell_7 ?_
  obtain ⟨P1, g1, h⟩ := h
  refine kc_np (As := [.int (iI p0), .int (iI 0), .int (iI ((σ 1 0) - 1))]) (rest := []) S (c_P_isWithin l dC dI (tyC kc) (wC ad kc nn) nn σ p0 0 ((σ 1 0) - 1) g1) ⟨va_cnB 3 hts (gG_good k_P_isWithin) rfl rfl rfl (hN _ (List.mem_of_getElem? (i := 5) rfl)) (hts _ (gG_in mw_1)) (by decide +kernel) ⟨Nat.le_of_ble_eq_true rfl, Nat.le_of_ble_eq_true rfl⟩, hts _ (gG_in mw_332), trivial⟩ hK hN hP rfl hl.1 rfl (Nat.le_of_ble_eq_true rfl) dS_hasCell_8 ⟨Nat.zero_le _, Nat.zero_le _⟩ (fun r1 hp => ?_)
  have h := h r1 hp
  obtain ⟨q1, h⟩ := h
  obtain ⟨ht, hf⟩ := h
  refine ki_if_eq (tgt := 46) hx hb dS_hasCell_11 (by decide) q1 (fun c1 => ?_) (fun c1 => ?_)
  · have h := ht c1
    refine lv_iconst (v := iI 0) hx hb dS_hasCell_46 rfl ?_
    exact k_zretP hx hb hr hlocks dS_hasCell_47 (by decide) h
  · have h := hf c1
    refine lv_iload_n hx hb dS_hasCell_14 rfl (lv_at hl 2 rfl) ?_
    refine lv_iconst (v := iI 0) hx hb dS_hasCell_15 rfl ?_
    refine lv_aload_n hx hb dS_hasCell_16 rfl (lv_at hl 0 rfl) ?_
    refine k_get (ci := 1) (C := R_S) (T := T_S) (N := 9) hx hb hts (fun w q => gG_in (inG_S w q)) hown hK hP 1 rfl rfl 1 (by decide) (hts _ (gG_in mw_42)) rfl dS_hasCell_17 ?_
    refine lv_iconst (v := iI 1) hx hb dS_hasCell_20 rfl ?_
    refine ki_sub hx hb dS_hasCell_21 ?_
    obtain ⟨P2, g2, h⟩ := h
    refine kc_np (As := [.int (iI p1), .int (iI 0), .int (iI ((σ 1 1) - 1))]) (rest := []) S (c_P_isWithin l dC dI (tyC kc) (wC ad kc nn) nn σ p1 0 ((σ 1 1) - 1) g2) ⟨va_cnB 3 hts (gG_good k_P_isWithin) rfl rfl rfl (hN _ (List.mem_of_getElem? (i := 5) rfl)) (hts _ (gG_in mw_1)) (by decide +kernel) ⟨Nat.le_of_ble_eq_true rfl, Nat.le_of_ble_eq_true rfl⟩, hts _ (gG_in mw_332), trivial⟩ hK hN hP rfl hl.1 rfl (Nat.le_of_ble_eq_true rfl) dS_hasCell_22 ⟨Nat.zero_le _, Nat.zero_le _⟩ (fun r2 hp => ?_)
    have h := h r2 hp
    obtain ⟨q2, h⟩ := h
    obtain ⟨ht, hf⟩ := h
    refine ki_if_eq (tgt := 46) hx hb dS_hasCell_25 (by decide) q2 (fun c2 => ?_) (fun c2 => ?_)
    · have h := ht c2
      refine lv_iconst (v := iI 0) hx hb dS_hasCell_46 rfl ?_
      exact k_zretP hx hb hr hlocks dS_hasCell_47 (by decide) h
    · have h := hf c2
      refine lv_iload_n hx hb dS_hasCell_28 rfl (lv_at hl 3 rfl) ?_
      refine lv_iconst (v := iI 0) hx hb dS_hasCell_29 rfl ?_
      refine lv_aload_n hx hb dS_hasCell_30 rfl (lv_at hl 0 rfl) ?_
      refine k_get (ci := 1) (C := R_S) (T := T_S) (N := 9) hx hb hts (fun w q => gG_in (inG_S w q)) hown hK hP 1 rfl rfl 1 (by decide) (hts _ (gG_in mw_42)) rfl dS_hasCell_31 ?_
      refine lv_iconst (v := iI 1) hx hb dS_hasCell_34 rfl ?_
      refine ki_sub hx hb dS_hasCell_35 ?_
      obtain ⟨P3, g3, h⟩ := h
      refine kc_np (As := [.int (iI p2), .int (iI 0), .int (iI ((σ 1 1) - 1))]) (rest := []) S (c_P_isWithin l dC dI (tyC kc) (wC ad kc nn) nn σ p2 0 ((σ 1 1) - 1) g3) ⟨va_cnB 3 hts (gG_good k_P_isWithin) rfl rfl rfl (hN _ (List.mem_of_getElem? (i := 5) rfl)) (hts _ (gG_in mw_1)) (by decide +kernel) ⟨Nat.le_of_ble_eq_true rfl, Nat.le_of_ble_eq_true rfl⟩, hts _ (gG_in mw_332), trivial⟩ hK hN hP rfl hl.1 rfl (Nat.le_of_ble_eq_true rfl) dS_hasCell_36 ⟨Nat.zero_le _, Nat.zero_le _⟩ (fun r3 hp => ?_)
      have h := h r3 hp
      obtain ⟨q3, h⟩ := h
      obtain ⟨ht, hf⟩ := h
      refine ki_if_eq (tgt := 46) hx hb dS_hasCell_39 (by decide) q3 (fun c3 => ?_) (fun c3 => ?_)
      · have h := ht c3
        refine lv_iconst (v := iI 0) hx hb dS_hasCell_46 rfl ?_
        exact k_zretP hx hb hr hlocks dS_hasCell_47 (by decide) h
      · have h := hf c3
        refine lv_iconst (v := iI 1) hx hb dS_hasCell_42 rfl ?_
        refine lv_goto (tgt := 47) hx hb dS_hasCell_43 (by decide) ?_
        exact k_zretP hx hb hr hlocks dS_hasCell_47 (by decide) h
abbrev rm_S_indexOf : Room := { frames := 0, cells := 0, slots := 0, locals := 0 }
set_option maxHeartbeats 4000000 in
set_option maxRecDepth 100000 in
theorem c_S_indexOf (l : Launch) (dC : Nat → ClassId) (dI : Nat → Nat → Nat) (ad : Nat → Nat) (kc : Nat → ClassId) (nn : Nat → Nat) (σ : kM) (p0 : Int) (p1 : Int) (p2 : Int) {P : Int → Prop} (h : wp_S_indexOf nn σ p0 p1 p2 P) : kMp l y_S_indexOf ws_S_indexOf rm_S_indexOf (dC, dI) vwC (tyC kc) (wC ad kc nn) nsG σ [.ref (ad 1), .int (iI p0), .int (iI p1), .int (iI p2)] P := by
  refine k_enterP (cc := b_S_indexOf) (maxL := 4) (ret := (some .int)) (by decide) rfl (Nat.le_of_ble_eq_true rfl) ?_
  intro p e s m below meth c ls S hr hlocks hP hK hN hl
  generalize ([.ref (ad 1), .int (iI p0), .int (iI p1), .int (iI p2)] : List Value).toArray = args at S ⊢
  obtain ⟨hx, hb, hml, hown, hts⟩ := id S
  have hl : lv_has ls 4 [(0, .ref (ad 1)), (1, .int (iI p0)), (2, .int (iI p1)), (3, .int (iI p2))] := hl
  unfold wp_S_indexOf at h
  refine lv_iload_n hx hb dS_indexOf_0 rfl (lv_at hl 1 rfl) ?_
  refine lv_aload_n hx hb dS_indexOf_1 rfl (lv_at hl 0 rfl) ?_
  refine k_get (ci := 1) (C := R_S) (T := T_S) (N := 9) hx hb hts (fun w q => gG_in (inG_S w q)) hown hK hP 1 rfl rfl 4 (by decide) (hts _ (gG_in mw_45)) rfl dS_indexOf_2 ?_
  refine ki_mul hx hb dS_indexOf_5 ?_
  refine lv_iload_n hx hb dS_indexOf_6 rfl (lv_at hl 3 rfl) ?_
  refine ki_add hx hb dS_indexOf_7 ?_
  refine lv_iconst (v := iI 1) hx hb dS_indexOf_8 rfl ?_
  refine ki_add hx hb dS_indexOf_9 ?_
  refine lv_aload_n hx hb dS_indexOf_10 rfl (lv_at hl 0 rfl) ?_
  refine k_get (ci := 1) (C := R_S) (T := T_S) (N := 9) hx hb hts (fun w q => gG_in (inG_S w q)) hown hK hP 1 rfl rfl 4 (by decide) (hts _ (gG_in mw_45)) rfl dS_indexOf_11 ?_
  refine ki_mul hx hb dS_indexOf_14 ?_
  refine lv_iload_n hx hb dS_indexOf_15 rfl (lv_at hl 2 rfl) ?_
  refine ki_add hx hb dS_indexOf_16 ?_
  refine lv_iconst (v := iI 1) hx hb dS_indexOf_17 rfl ?_
  refine ki_add hx hb dS_indexOf_18 ?_
  exact k_iretP hx hb hr hlocks dS_indexOf_19 h
abbrev rm_S_tell : Room := { frames := 1, cells := 0, slots := 0, locals := 23 }
set_option maxHeartbeats 4000000 in
set_option maxRecDepth 100000 in
theorem c_S_tell (l : Launch) (dC : Nat → ClassId) (dI : Nat → Nat → Nat) (ad : Nat → Nat) (kc : Nat → ClassId) (nn : Nat → Nat) (σ : kM) (p0 : Int) (p1 : Int) (p2 : Int) (p3 : Int) {P : Int → kM → Prop} (h : wp_S_tell nn σ p0 p1 p2 p3 P) : kMi l y_S_tell ws_S_tell rm_S_tell (dC, dI) vwC (tyC kc) (wC ad kc nn) nsG σ [.ref (ad 1), .int (iI p0), .int (iI p1), .int (iI p2), .int (iI p3)] P := by
  intro sz
  refine k_enter (cc := b_S_tell) (maxL := 7) (ret := (some .boolean)) (by decide) rfl (Nat.le_of_ble_eq_true rfl) ?_
  intro p e s m below meth c ls S hr hlocks hsz hA hW hK hN hl
  generalize va_A ((wC ad kc nn) σ) sz = A at hA hW ⊢
  generalize ([.ref (ad 1), .int (iI p0), .int (iI p1), .int (iI p2), .int (iI p3)] : List Value).toArray = args at S ⊢
  obtain ⟨hx, hb, hml, hown, hts⟩ := id S
  have hl : lv_has ls 7 [(0, .ref (ad 1)), (1, .int (iI p0)), (2, .int (iI p1)), (3, .int (iI p2)), (4, .int (iI p3))] := hl
  unfold wp_S_tell at h
  refine lv_aload_n hx hb dS_tell_0 rfl (lv_at hl 0 rfl) ?_
  refine lv_iload_n hx hb dS_tell_1 rfl (lv_at hl 1 rfl) ?_
  refine lv_iload_n hx hb dS_tell_2 rfl (lv_at hl 2 rfl) ?_
  refine lv_iload_n hx hb dS_tell_3 rfl (lv_at hl 3 rfl) ?_
  refine kc_vp (As := [.int (iI p0), .int (iI p1), .int (iI p2)]) (rest := []) (ci := 1) (q0 := 1) S (c_S_indexOf l dC dI ad kc nn σ p0 p1 p2 (P := fun r => ((((((p0 * (σ 1 4)) + p2) + 1) * (σ 1 4)) + p1) + 1) = r) rfl) (cwV 3 hts (gV mw_262 mw_264 ps_3 mw_2 k_S_indexOf) rfl rfl rfl (by decide +kernel) ⟨Nat.le_of_ble_eq_true rfl, Nat.le_of_ble_eq_true rfl⟩) hK hN hW.1 rfl rfl rfl hl.1 rfl (Nat.le_of_ble_eq_true rfl) dS_tell_4 ⟨Nat.zero_le _, Nat.zero_le _⟩ (fun r1 hp => ?_)
  subst hp
  refine ki_nm (fun v1 ev1 => ?_)
  have h := h v1 ev1
  refine lv_istore (lv' := [(5, .int (iI v1)), (0, .ref (ad 1)), (1, .int (iI p0)), (2, .int (iI p1)), (3, .int (iI p2)), (4, .int (iI p3))]) hx hb dS_tell_7 hl (by decide) rfl (fun ls hl => ?_)
  refine lv_aload_n hx hb dS_tell_9 rfl (lv_at hl 1 rfl) ?_
  refine k_get (ci := 1) (C := R_S) (T := T_S) (N := 9) hx hb hts (fun w q => gG_in (inG_S w q)) hown hK hW.1 1 rfl rfl 5 (by decide) (hts _ (gG_in mw_46)) rfl dS_tell_10 ?_
  refine lv_iload hx hb dS_tell_13 (lv_at hl 0 rfl) ?_
  obtain ⟨q1, h⟩ := h
  refine k_zald hx hb hK hW.1 8 0 (σ 8) rfl rfl q1 dS_tell_15 ?_
  refine lv_iload hx hb dS_tell_16 (lv_at hl 5 rfl) ?_
  obtain ⟨q2, h⟩ := h
  obtain ⟨q3, h⟩ := h
  have jW1 : ∀ (v2 : Int) (H : Heap) (locs : List Loc) (ls : Array Slot), kW (dC, dI) vwC A s.heap (wC ad kc nn σ) H locs → lv_has ls 7 [(5, .int (iI v1)), (0, .ref (ad 1)), (1, .int (iI p0)), (4, .int (iI p3))] → jn_S_tell_26 nn p0 p3 σ P v1 v2 → W p l e (headSpec ws_S_tell rm_S_tell).room s m args below meth c H locs 0 0 (MQ below (kQi (dC, dI) vwC (wC ad kc nn) P A) args s 0 0 A) (F0 m 26 ls [.int (iI v2)]) := by
    intro v2 H locs ls hW hl h
    unfold jn_S_tell_26 at h
    refine lv_istore (lv' := [(6, .int (iI v2)), (5, .int (iI v1)), (0, .ref (ad 1)), (1, .int (iI p0)), (4, .int (iI p3))]) hx hb dS_tell_26 hl (by decide) rfl (fun ls hl => ?_)
    refine lv_iload hx hb dS_tell_28 (lv_at hl 0 rfl) ?_
    obtain ⟨q4, h⟩ := h
    obtain ⟨ht, hf⟩ := h
    refine ki_if_eq (tgt := 49) hx hb dS_tell_30 (by decide) q4 (fun c1 => ?_) (fun c1 => ?_)
    · have h := ht c1
      refine lv_iload hx hb dS_tell_49 (lv_at hl 0 rfl) ?_
      exact k_zret hx hb hr hlocks hW dS_tell_51 h.1 h.2
    · have h := hf c1
      refine lv_aload_n hx hb dS_tell_33 rfl (lv_at hl 2 rfl) ?_
      refine k_get (ci := 1) (C := R_S) (T := T_S) (N := 9) hx hb hts (fun w q => gG_in (inG_S w q)) hown hK hW.1 1 rfl rfl 5 (by decide) (hts _ (gG_in mw_46)) rfl dS_tell_34 ?_
      refine lv_iload hx hb dS_tell_37 (lv_at hl 1 rfl) ?_
      refine lv_iload hx hb dS_tell_39 (lv_at hl 4 rfl) ?_
      obtain ⟨q5, h⟩ := h
      obtain ⟨q6, h⟩ := h
      obtain ⟨s1, es1⟩ : ∃ z : kM, z = va_up σ 8 (va_up (σ 8) v1.toNat p3) := ⟨_, rfl⟩
      refine k_zast (ws' := wC ad kc nn s1) hx hb hK hW 8 0 (σ 8) rfl rfl q5 q6 (by rw [es1]; exact wC_a8 ..) dS_tell_41 (fun H locs hW => ?_)
      have h := h s1 es1
      refine lv_aload_n hx hb dS_tell_42 rfl (lv_at hl 2 rfl) ?_
      refine k_get (ci := 1) (C := R_S) (T := T_S) (N := 9) hx hb hts (fun w q => gG_in (inG_S w q)) hown hK hW.1 1 rfl rfl 7 (by decide) (hts _ (gG_in mw_48)) rfl dS_tell_43 ?_
      refine lv_iload_n hx hb dS_tell_46 rfl (lv_at hl 3 rfl) ?_
      refine lv_iconst (v := iI 1) hx hb dS_tell_47 rfl ?_
      obtain ⟨q7, h⟩ := h
      obtain ⟨s2, es2⟩ : ∃ z : kM, z = va_up s1 10 (va_up (s1 10) p0.toNat 1) := ⟨_, rfl⟩
      refine k_zast (ws' := wC ad kc nn s2) hx hb hK hW 10 2 (s1 10) rfl rfl q7 (by decide) (by rw [es2]; exact wC_a10 ..) dS_tell_48 (fun H locs hW => ?_)
      have h := h s2 es2
      refine lv_iload hx hb dS_tell_49 (lv_at hl 0 rfl) ?_
      exact k_zret hx hb hr hlocks hW dS_tell_51 h.1 h.2
  obtain ⟨ht, hf⟩ := h
  refine ki_icmp_eq (tgt := 25) hx hb dS_tell_18 (by decide) q2 q3 (fun c2 => ?_) (fun c2 => ?_)
  · have h := ht c2
    refine lv_iconst (v := iI 0) hx hb dS_tell_25 rfl ?_
    exact jW1 0 _ _ ls hW (lv_sub hl [0, 1, 2, 5] rfl) h
  · have h := hf c2
    refine lv_iconst (v := iI 1) hx hb dS_tell_21 rfl ?_
    refine lv_goto (tgt := 26) hx hb dS_tell_22 (by decide) ?_
    exact jW1 1 _ _ ls hW (lv_sub hl [0, 1, 2, 5] rfl) h
abbrev rm_A_forget : Room := { frames := 0, cells := 0, slots := 0, locals := 0 }
set_option maxHeartbeats 4000000 in
set_option maxRecDepth 100000 in
theorem c_A_forget (l : Launch) (dC : Nat → ClassId) (dI : Nat → Nat → Nat) (ad : Nat → Nat) (kc : Nat → ClassId) (nn : Nat → Nat) (σ : kM) {P : kM → Prop} (h : wp_A_forget nn σ P) : kMv l y_A_forget ws_A_forget rm_A_forget (dC, dI) vwC (tyC kc) (wC ad kc nn) nsG σ [.ref (ad 2)] P := by
  intro sz
  refine k_enter (cc := b_A_forget) (maxL := 1) (ret := none) (by decide) rfl (Nat.le_of_ble_eq_true rfl) ?_
  intro p e s m below meth c ls S hr hlocks hsz hA hW hK hN hl
  generalize va_A ((wC ad kc nn) σ) sz = A at hA hW ⊢
  generalize ([.ref (ad 2)] : List Value).toArray = args at S ⊢
  obtain ⟨hx, hb, hml, hown, hts⟩ := id S
  have hl : lv_has ls 1 [(0, .ref (ad 2))] := hl
  unfold wp_A_forget at h
  refine lv_aload_n hx hb dA_forget_0 rfl (lv_at hl 0 rfl) ?_
  refine lv_iconst (v := iI 1) hx hb dA_forget_1 rfl ?_
  obtain ⟨s1, es1⟩ : ∃ z : kM, z = va_up σ 2 (va_up (σ 2) 5 1) := ⟨_, rfl⟩
  refine k_put (ty := .boolean) (ws' := wC ad kc nn s1) (ci := 2) (C := R_A) (T := T_A) (N := 6) hx hb hts (fun w q => gG_in (inG_A w q)) ty_A tk_A nm_A hown hK hW 2 rfl rfl 5 (by decide) (hts _ (gG_in mw_90)) rfl (by decide +kernel) (narZ (by decide)) (fitZ (by decide)) (Nat.le_of_ble_eq_true rfl) (by rw [es1]; exact wC_p2_5 ..) dA_forget_2 (fun H locs hW => ?_)
  have h := h s1 es1
  exact k_vret hx hb hr hlocks hW dA_forget_5 h
abbrev rm_R_forget : Room := { frames := 0, cells := 0, slots := 0, locals := 0 }
set_option maxHeartbeats 4000000 in
set_option maxRecDepth 100000 in
theorem c_R_forget (l : Launch) (dC : Nat → ClassId) (dI : Nat → Nat → Nat) (ad : Nat → Nat) (kc : Nat → ClassId) (nn : Nat → Nat) (σ : kM) {P : kM → Prop} (h : wp_R_forget nn σ P) : kMv l y_R_forget ws_R_forget rm_R_forget (dC, dI) vwC (tyC kc) (wC ad kc nn) nsG σ [.ref (ad 3)] P := by
  intro sz
  refine k_enter (cc := b_R_forget) (maxL := 1) (ret := none) (by decide) rfl (Nat.le_of_ble_eq_true rfl) ?_
  intro p e s m below meth c ls S hr hlocks hsz hA hW hK hN hl
  generalize va_A ((wC ad kc nn) σ) sz = A at hA hW ⊢
  generalize ([.ref (ad 3)] : List Value).toArray = args at S ⊢
  obtain ⟨hx, hb, hml, hown, hts⟩ := id S
  have hl : lv_has ls 1 [(0, .ref (ad 3))] := hl
  unfold wp_R_forget at h
  refine lv_aload_n hx hb dR_forget_0 rfl (lv_at hl 0 rfl) ?_
  refine lv_iconst (v := iI 0) hx hb dR_forget_1 rfl ?_
  obtain ⟨s1, es1⟩ : ∃ z : kM, z = va_up σ 3 (va_up (σ 3) 0 0) := ⟨_, rfl⟩
  refine k_put (ty := .boolean) (ws' := wC ad kc nn s1) (ci := 3) (C := R_R) (T := T_R) (N := 4) hx hb hts (fun w q => gG_in (inG_R w q)) ty_R tk_R nm_R hown hK hW 3 rfl rfl 0 (by decide) (hts _ (gG_in mw_110)) rfl (by decide +kernel) (narZ (by decide)) (fitZ (by decide)) (Nat.le_of_ble_eq_true rfl) (by rw [es1]; exact wC_p3_0 ..) dR_forget_2 (fun H locs hW => ?_)
  have h := h s1 es1
  exact k_vret hx hb hr hlocks hW dR_forget_5 h
abbrev rm_C_forget : Room := { frames := 0, cells := 0, slots := 0, locals := 0 }
set_option maxHeartbeats 4000000 in
set_option maxRecDepth 100000 in
theorem c_C_forget (l : Launch) (dC : Nat → ClassId) (dI : Nat → Nat → Nat) (ad : Nat → Nat) (kc : Nat → ClassId) (nn : Nat → Nat) (σ : kM) {P : kM → Prop} (h : wp_C_forget nn σ P) : kMv l y_C_forget ws_C_forget rm_C_forget (dC, dI) vwC (tyC kc) (wC ad kc nn) nsG σ [.ref (ad 6)] P := by
  intro sz
  refine k_enter (cc := b_C_forget) (maxL := 1) (ret := none) (by decide) rfl (Nat.le_of_ble_eq_true rfl) ?_
  intro p e s m below meth c ls S hr hlocks hsz hA hW hK hN hl
  generalize va_A ((wC ad kc nn) σ) sz = A at hA hW ⊢
  generalize ([.ref (ad 6)] : List Value).toArray = args at S ⊢
  obtain ⟨hx, hb, hml, hown, hts⟩ := id S
  have hl : lv_has ls 1 [(0, .ref (ad 6))] := hl
  unfold wp_C_forget at h
  refine lv_aload_n hx hb dC_forget_0 rfl (lv_at hl 0 rfl) ?_
  refine lv_iconst (v := iI 0) hx hb dC_forget_1 rfl ?_
  obtain ⟨s1, es1⟩ : ∃ z : kM, z = va_up σ 6 (va_up (σ 6) 5 0) := ⟨_, rfl⟩
  refine k_put (ty := .boolean) (ws' := wC ad kc nn s1) (ci := 6) (C := R_C) (T := T_C) (N := 10) hx hb hts (fun w q => gG_in (inG_C w q)) ty_C tk_C nm_C hown hK hW 6 rfl rfl 5 (by decide) (hts _ (gG_in mw_172)) rfl (by decide +kernel) (narZ (by decide)) (fitZ (by decide)) (Nat.le_of_ble_eq_true rfl) (by rw [es1]; exact wC_p6_5 ..) dC_forget_2 (fun H locs hW => ?_)
  have h := h s1 es1
  exact k_vret hx hb hr hlocks hW dC_forget_5 h
abbrev rm_P_cell : Room := { frames := 6, cells := 0, slots := 0, locals := 82 }
set_option maxHeartbeats 4000000 in
set_option maxRecDepth 100000 in
theorem c_P_cell (l : Launch) (dC : Nat → ClassId) (dI : Nat → Nat → Nat) (ad : Nat → Nat) (kc : Nat → ClassId) (nn : Nat → Nat) (σ : kM) (p0 : Int) (p1 : Int) (p2 : Int) (p3 : Int) {P : Int → kM → Prop} (h : wp_P_cell nn σ p0 p1 p2 p3 P (fun _ _ => False)) : kMi l y_P_cell ws_P_cell rm_P_cell (dC, dI) vwC (tyC kc) (wC ad kc nn) nsG σ [.ref (ad 0), .int (iI p0), .int (iI p1), .int (iI p2), .int (iI p3)] P := by
  intro sz
  refine k_enter (cc := b_P_cell) (maxL := 6) (ret := (some .boolean)) (by decide) rfl (Nat.le_of_ble_eq_true rfl) ?_
  intro p e s m below meth c ls S hr hlocks hsz hA hW hK hN hl
  generalize va_A ((wC ad kc nn) σ) sz = A at hA hW ⊢
  generalize ([.ref (ad 0), .int (iI p0), .int (iI p1), .int (iI p2), .int (iI p3)] : List Value).toArray = args at S ⊢
  obtain ⟨hx, hb, hml, hown, hts⟩ := id S
  have hl : lv_has ls 6 [(0, .ref (ad 0)), (1, .int (iI p0)), (2, .int (iI p1)), (3, .int (iI p2)), (4, .int (iI p3))] := hl
  unfold wp_P_cell at h
  refine lv_aload_n hx hb dP_cell_0 rfl (lv_at hl 0 rfl) ?_
  refine k_get (ci := 0) (C := R_P) (T := T_P) (N := 7) hx hb hts (fun w q => gG_in (inG_P w q)) hown hK hW.1 0 rfl rfl 0 (by decide) (hts _ (gG_in mw_215)) rfl dP_cell_1 ?_
  refine lv_iload_n hx hb dP_cell_4 rfl (lv_at hl 1 rfl) ?_
  refine lv_iload_n hx hb dP_cell_5 rfl (lv_at hl 2 rfl) ?_
  refine lv_iload_n hx hb dP_cell_6 rfl (lv_at hl 3 rfl) ?_
  obtain ⟨P1, g1, h⟩ := h
  refine kc_vp (As := [.int (iI p0), .int (iI p1), .int (iI p2)]) (rest := []) (ci := 1) (q0 := 1) S (c_S_hasCell l dC dI ad kc nn σ p0 p1 p2 g1) (cwV 3 hts (gV mw_327 mw_328 mw_329 mw_2 k_S_hasCell) rfl rfl rfl (by decide +kernel) ⟨Nat.le_of_ble_eq_true rfl, Nat.le_of_ble_eq_true rfl⟩) hK hN hW.1 rfl rfl rfl hl.1 rfl (Nat.le_of_ble_eq_true rfl) dP_cell_7 ⟨Nat.zero_le _, Nat.zero_le _⟩ (fun r1 hp => ?_)
  have h := h r1 hp
  obtain ⟨q1, h⟩ := h
  obtain ⟨ht, hf⟩ := h
  refine ki_if_ne (tgt := 23) hx hb dP_cell_10 (by decide) q1 (fun c1 => ?_) (fun c1 => ?_)
  · have h := ht c1
    refine lv_aload_n hx hb dP_cell_23 rfl (lv_at hl 0 rfl) ?_
    refine k_get (ci := 0) (C := R_P) (T := T_P) (N := 7) hx hb hts (fun w q => gG_in (inG_P w q)) hown hK hW.1 0 rfl rfl 0 (by decide) (hts _ (gG_in mw_215)) rfl dP_cell_24 ?_
    refine lv_iload_n hx hb dP_cell_27 rfl (lv_at hl 1 rfl) ?_
    refine lv_iload_n hx hb dP_cell_28 rfl (lv_at hl 2 rfl) ?_
    refine lv_iload_n hx hb dP_cell_29 rfl (lv_at hl 3 rfl) ?_
    refine lv_iload hx hb dP_cell_30 (lv_at hl 4 rfl) ?_
    obtain ⟨P2, g2, h⟩ := h
    refine kc_vi (As := [.int (iI p0), .int (iI p1), .int (iI p2), .int (iI p3)]) (rest := []) (ci := 1) (q0 := 1) S (c_S_tell l dC dI ad kc nn σ p0 p1 p2 p3 g2) (cwV 4 hts (gV mw_402 mw_403 mw_404 mw_2 k_S_tell) rfl rfl rfl (by decide +kernel) ⟨Nat.le_of_ble_eq_true rfl, Nat.le_of_ble_eq_true rfl⟩) hK hN hA hW (fun _ => rfl) rfl rfl rfl hl.1 rfl (Nat.le_of_ble_eq_true rfl) dP_cell_32 ⟨Nat.zero_le _, Nat.zero_le _⟩ (fun r2 s1 H locs hp hW => ?_)
    have h := h r2 s1 hp
    refine lv_istore (lv' := [(5, .int (iI r2)), (0, .ref (ad 0)), (1, .int (iI p0)), (2, .int (iI p1)), (3, .int (iI p2)), (4, .int (iI p3))]) hx hb dP_cell_35 hl (by decide) rfl (fun ls hl => ?_)
    refine lv_iload hx hb dP_cell_37 (lv_at hl 0 rfl) ?_
    obtain ⟨q2, h⟩ := h
    obtain ⟨ht, hf⟩ := h
    refine ki_if_eq (tgt := 63) hx hb dP_cell_39 (by decide) q2 (fun c2 => ?_) (fun c2 => ?_)
    · have h := ht c2
      refine lv_iload hx hb dP_cell_63 (lv_at hl 0 rfl) ?_
      exact k_zret hx hb hr hlocks hW dP_cell_65 h.1 h.2
    · have h := hf c2
      refine lv_aload_n hx hb dP_cell_42 rfl (lv_at hl 1 rfl) ?_
      refine k_get (ci := 0) (C := R_P) (T := T_P) (N := 7) hx hb hts (fun w q => gG_in (inG_P w q)) hown hK hW.1 0 rfl rfl 1 (by decide) (hts _ (gG_in mw_216)) rfl dP_cell_43 ?_
      obtain ⟨P3, g3, h⟩ := h
      refine kc_vv (As := []) (rest := []) (ci := 2) (q0 := 2) S (c_A_forget l dC dI ad kc nn s1 g3) (cwV 0 hts (gV mw_406 mw_407 mw_408 mw_4 k_A_forget) rfl rfl rfl (by decide +kernel) ⟨Nat.le_of_ble_eq_true rfl, Nat.le_of_ble_eq_true rfl⟩) hK hN hA hW (fun _ => rfl) rfl rfl rfl hl.1 rfl (Nat.le_of_ble_eq_true rfl) dP_cell_46 ⟨Nat.zero_le _, Nat.zero_le _⟩ (fun s2 H locs hp hW => ?_)
      have h := h s2 hp
      refine lv_aload_n hx hb dP_cell_49 rfl (lv_at hl 1 rfl) ?_
      refine k_get (ci := 0) (C := R_P) (T := T_P) (N := 7) hx hb hts (fun w q => gG_in (inG_P w q)) hown hK hW.1 0 rfl rfl 2 (by decide) (hts _ (gG_in mw_217)) rfl dP_cell_50 ?_
      obtain ⟨P4, g4, h⟩ := h
      refine kc_vv (As := []) (rest := []) (ci := 3) (q0 := 3) S (c_R_forget l dC dI ad kc nn s2 g4) (cwV 0 hts (gV mw_410 mw_411 mw_412 mw_5 k_R_forget) rfl rfl rfl (by decide +kernel) ⟨Nat.le_of_ble_eq_true rfl, Nat.le_of_ble_eq_true rfl⟩) hK hN hA hW (fun _ => rfl) rfl rfl rfl hl.1 rfl (Nat.le_of_ble_eq_true rfl) dP_cell_53 ⟨Nat.zero_le _, Nat.zero_le _⟩ (fun s3 H locs hp hW => ?_)
      have h := h s3 hp
      refine lv_aload_n hx hb dP_cell_56 rfl (lv_at hl 1 rfl) ?_
      refine k_get (ci := 0) (C := R_P) (T := T_P) (N := 7) hx hb hts (fun w q => gG_in (inG_P w q)) hown hK hW.1 0 rfl rfl 5 (by decide) (hts _ (gG_in mw_220)) rfl dP_cell_57 ?_
      obtain ⟨P5, g5, h⟩ := h
      refine kc_vv (As := []) (rest := []) (ci := 6) (q0 := 6) S (c_C_forget l dC dI ad kc nn s3 g5) (cwV 0 hts (gV mw_414 mw_415 mw_416 mw_8 k_C_forget) rfl rfl rfl (by decide +kernel) ⟨Nat.le_of_ble_eq_true rfl, Nat.le_of_ble_eq_true rfl⟩) hK hN hA hW (fun _ => rfl) rfl rfl rfl hl.1 rfl (Nat.le_of_ble_eq_true rfl) dP_cell_60 ⟨Nat.zero_le _, Nat.zero_le _⟩ (fun s4 H locs hp hW => ?_)
      have h := h s4 hp
      refine lv_iload hx hb dP_cell_63 (lv_at hl 0 rfl) ?_
      exact k_zret hx hb hr hlocks hW dP_cell_65 h.1 h.2
  · have h := hf c1
    exact False.elim h
abbrev rm_S_gap : Room := { frames := 0, cells := 0, slots := 0, locals := 0 }
set_option maxHeartbeats 4000000 in
set_option maxRecDepth 100000 in
theorem c_S_gap (l : Launch) (dC : Nat → ClassId) (dI : Nat → Nat → Nat) (ad : Nat → Nat) (kc : Nat → ClassId) (nn : Nat → Nat) (σ : kM) (p0 : Int) (p1 : Int) {P : Int → Prop} (h : wp_S_gap nn σ p0 p1 P) : kMp l y_S_gap ws_S_gap rm_S_gap (dC, dI) vwC (tyC kc) (wC ad kc nn) nsG σ [.ref (ad 1), .int (iI p0), .int (iI p1)] P := by
  refine k_enterP (cc := b_S_gap) (maxL := 5) (ret := (some .int)) (by decide) rfl (Nat.le_of_ble_eq_true rfl) ?_
  intro p e s m below meth c ls S hr hlocks hP hK hN hl
  generalize ([.ref (ad 1), .int (iI p0), .int (iI p1)] : List Value).toArray = args at S ⊢
  obtain ⟨hx, hb, hml, hown, hts⟩ := id S
  have hl : lv_has ls 5 [(0, .ref (ad 1)), (1, .int (iI p0)), (2, .int (iI p1))] := hl
  unfold wp_S_gap at h
  refine lv_iload_n hx hb dS_gap_0 rfl (lv_at hl 2 rfl) ?_
  refine lv_aload_n hx hb dS_gap_1 rfl (lv_at hl 0 rfl) ?_
  refine k_get (ci := 1) (C := R_S) (T := T_S) (N := 9) hx hb hts (fun w q => gG_in (inG_S w q)) hown hK hP 1 rfl rfl 2 (by decide) (hts _ (gG_in mw_43)) rfl dS_gap_2 ?_
  refine ki_mul hx hb dS_gap_5 ?_
  refine ki_nm (fun v1 ev1 => ?_)
  have h := h v1 ev1
  refine lv_istore_n (lv' := [(3, .int (iI v1)), (0, .ref (ad 1)), (1, .int (iI p0)), (2, .int (iI p1))]) hx hb dS_gap_6 rfl hl (by decide) rfl (fun ls hl => ?_)
  refine lv_iload_n hx hb dS_gap_7 rfl (lv_at hl 0 rfl) ?_
  refine lv_aload_n hx hb dS_gap_8 rfl (lv_at hl 1 rfl) ?_
  refine k_get (ci := 1) (C := R_S) (T := T_S) (N := 9) hx hb hts (fun w q => gG_in (inG_S w q)) hown hK hP 1 rfl rfl 2 (by decide) (hts _ (gG_in mw_43)) rfl dS_gap_9 ?_
  refine ki_add hx hb dS_gap_12 ?_
  refine ki_nm (fun v2 ev2 => ?_)
  have h := h v2 ev2
  refine lv_istore (lv' := [(4, .int (iI v2)), (3, .int (iI v1)), (0, .ref (ad 1)), (1, .int (iI p0)), (2, .int (iI p1))]) hx hb dS_gap_13 hl (by decide) rfl (fun ls hl => ?_)
  refine lv_iload_n hx hb dS_gap_15 rfl (lv_at hl 3 rfl) ?_
  refine lv_iload_n hx hb dS_gap_16 rfl (lv_at hl 1 rfl) ?_
  obtain ⟨q1, h⟩ := h
  obtain ⟨q2, h⟩ := h
  obtain ⟨ht, hf⟩ := h
  refine ki_icmp_ge (tgt := 26) hx hb dS_gap_17 (by decide) q1 q2 (fun c1 => ?_) (fun c1 => ?_)
  · have h := ht c1
    refine lv_iload_n hx hb dS_gap_26 rfl (lv_at hl 3 rfl) ?_
    refine lv_iload hx hb dS_gap_27 (lv_at hl 0 rfl) ?_
    obtain ⟨q3, h⟩ := h
    obtain ⟨q4, h⟩ := h
    obtain ⟨ht, hf⟩ := h
    refine ki_icmp_le (tgt := 39) hx hb dS_gap_29 (by decide) q3 q4 (fun c2 => ?_) (fun c2 => ?_)
    · have h := ht c2
      refine lv_iconst (v := iI 0) hx hb dS_gap_39 rfl ?_
      exact k_iretP hx hb hr hlocks dS_gap_40 h
    · have h := hf c2
      refine lv_iload_n hx hb dS_gap_32 rfl (lv_at hl 3 rfl) ?_
      refine lv_iload hx hb dS_gap_33 (lv_at hl 0 rfl) ?_
      refine ki_sub hx hb dS_gap_35 ?_
      refine lv_goto (tgt := 40) hx hb dS_gap_36 (by decide) ?_
      exact k_iretP hx hb hr hlocks dS_gap_40 h
  · have h := hf c1
    refine lv_iload_n hx hb dS_gap_20 rfl (lv_at hl 1 rfl) ?_
    refine lv_iload_n hx hb dS_gap_21 rfl (lv_at hl 3 rfl) ?_
    refine ki_sub hx hb dS_gap_22 ?_
    refine lv_goto (tgt := 40) hx hb dS_gap_23 (by decide) ?_
    exact k_iretP hx hb hr hlocks dS_gap_40 h
abbrev rm_S_nearestInColumnOf : Room := { frames := 1, cells := 0, slots := 0, locals := 24 }
set_option maxHeartbeats 4000000 in
set_option maxRecDepth 100000 in
theorem c_S_nearestInColumnOf (l : Launch) (dC : Nat → ClassId) (dI : Nat → Nat → Nat) (ad : Nat → Nat) (kc : Nat → ClassId) (nn : Nat → Nat) (σ : kM) (p0 : Int) (p1 : Int) (p2 : Int) {P : Int → Prop} (h : wp_S_nearestInColumnOf nn σ p0 p1 p2 P) : kMp l y_S_nearestInColumnOf ws_S_nearestInColumnOf rm_S_nearestInColumnOf (dC, dI) vwC (tyC kc) (wC ad kc nn) nsG σ [.ref (ad 1), .int (iI p0), .int (iI p1), .int (iI p2)] P := by
  refine k_enterP (cc := b_S_nearestInColumnOf) (maxL := 7) (ret := (some .int)) (by decide) rfl (Nat.le_of_ble_eq_true rfl) ?_
  intro p e s m below meth c ls S hr hlocks hP hK hN hl
  generalize ([.ref (ad 1), .int (iI p0), .int (iI p1), .int (iI p2)] : List Value).toArray = args at S ⊢
  obtain ⟨hx, hb, hml, hown, hts⟩ := id S
  have hl : lv_has ls 7 [(0, .ref (ad 1)), (1, .int (iI p0)), (2, .int (iI p1)), (3, .int (iI p2))] := hl
  unfold wp_S_nearestInColumnOf at h
  refine lv_ldc (v := iI 2147483647) hx hb hown (hts _ (gG_in mc_261)) dS_nearestInColumnOf_0 ?_
  refine lv_istore (lv' := [(4, .int (iI 2147483647)), (0, .ref (ad 1)), (1, .int (iI p0)), (2, .int (iI p1)), (3, .int (iI p2))]) hx hb dS_nearestInColumnOf_2 hl (by decide) rfl (fun ls hl => ?_)
  refine lv_iconst (v := iI (-1)) hx hb dS_nearestInColumnOf_4 rfl ?_
  refine lv_istore (lv' := [(5, .int (iI (-1))), (4, .int (iI 2147483647)), (0, .ref (ad 1)), (1, .int (iI p0)), (2, .int (iI p1)), (3, .int (iI p2))]) hx hb dS_nearestInColumnOf_5 hl (by decide) rfl (fun ls hl => ?_)
  obtain ⟨Pe1, k1, h, hk1⟩ := h
  have xW1 : ∀ (v3 : Int) (v4 : Int) (ls : Array Slot), lv_has ls 7 [(4, .int (iI v4))] → Pe1 v3 v4 → W p l e (headSpec ws_S_nearestInColumnOf rm_S_nearestInColumnOf).room s m args below meth c s.heap [] 0 0 (MQ below (kQp P) args s 0 0 (fun _ => False)) (F0 m 59 ls []) := by
    intro v3 v4 ls hl h
    have h := hk1 v3 v4 h
    refine lv_iload hx hb dS_nearestInColumnOf_59 (lv_at hl 0 rfl) ?_
    exact k_iretP hx hb hr hlocks dS_nearestInColumnOf_61 h
  have lW1 : ∀ (ki1 : Nat) (v1 : Int) (v2 : Int) (ls : Array Slot), lv_has ls 7 [(5, .int (iI v1)), (4, .int (iI v2)), (0, .ref (ad 1)), (1, .int (iI p0)), (2, .int (iI p1)), (3, .int (iI p2))] → lp_S_nearestInColumnOf_7 nn p0 p1 p2 σ Pe1 ki1 v1 v2 → W p l e (headSpec ws_S_nearestInColumnOf rm_S_nearestInColumnOf).room s m args below meth c s.heap [] 0 0 (MQ below (kQp P) args s 0 0 (fun _ => False)) (F0 m 7 ls []) := by
    intro ki1
    induction ki1 with
    | zero => intro v1 v2 ls hl h; exact h.elim
    | succ ki1 ih1 =>
      intro v1 v2 ls hl h
      have h : lpB_S_nearestInColumnOf_7 nn p0 p1 p2 σ Pe1 (lp_S_nearestInColumnOf_7 nn p0 p1 p2 σ Pe1 ki1) v1 v2 := h
      unfold lpB_S_nearestInColumnOf_7 at h
      refine lv_iload hx hb dS_nearestInColumnOf_7 (lv_at hl 0 rfl) ?_
      refine lv_aload_n hx hb dS_nearestInColumnOf_9 rfl (lv_at hl 2 rfl) ?_
      refine k_get (ci := 1) (C := R_S) (T := T_S) (N := 9) hx hb hts (fun w q => gG_in (inG_S w q)) hown hK hP 1 rfl rfl 1 (by decide) (hts _ (gG_in mw_42)) rfl dS_nearestInColumnOf_10 ?_
      obtain ⟨q1, h⟩ := h
      obtain ⟨q2, h⟩ := h
      obtain ⟨ht, hf⟩ := h
      refine ki_icmp_gt (tgt := 59) hx hb dS_nearestInColumnOf_13 (by decide) q1 q2 (fun c1 => ?_) (fun c1 => ?_)
      · have h := ht c1
        exact xW1 v1 v2 ls (lv_sub hl [1] rfl) h
      · have h := hf c1
        refine lv_aload_n hx hb dS_nearestInColumnOf_16 rfl (lv_at hl 2 rfl) ?_
        refine k_get (ci := 1) (C := R_S) (T := T_S) (N := 9) hx hb hts (fun w q => gG_in (inG_S w q)) hown hK hP 1 rfl rfl 5 (by decide) (hts _ (gG_in mw_46)) rfl dS_nearestInColumnOf_17 ?_
        refine lv_aload_n hx hb dS_nearestInColumnOf_20 rfl (lv_at hl 2 rfl) ?_
        refine lv_iload_n hx hb dS_nearestInColumnOf_21 rfl (lv_at hl 3 rfl) ?_
        refine lv_iload_n hx hb dS_nearestInColumnOf_22 rfl (lv_at hl 4 rfl) ?_
        refine lv_iload hx hb dS_nearestInColumnOf_23 (lv_at hl 0 rfl) ?_
        refine kc_vp (As := [.int (iI p0), .int (iI p1), .int (iI v1)]) (rest := [.ref (ad 8)]) (ci := 1) (q0 := 1) S (c_S_indexOf l dC dI ad kc nn σ p0 p1 v1 (P := fun r => ((((((p0 * (σ 1 4)) + v1) + 1) * (σ 1 4)) + p1) + 1) = r) rfl) (cwV 3 hts (gV mw_262 mw_264 ps_3 mw_2 k_S_indexOf) rfl rfl rfl (by decide +kernel) ⟨Nat.le_of_ble_eq_true rfl, Nat.le_of_ble_eq_true rfl⟩) hK hN hP rfl rfl rfl hl.1 rfl (Nat.le_of_ble_eq_true rfl) dS_nearestInColumnOf_25 ⟨Nat.zero_le _, Nat.zero_le _⟩ (fun r1 hp => ?_)
        subst hp
        obtain ⟨q3, h⟩ := h
        refine k_zald hx hb hK hP 8 0 (σ 8) rfl rfl q3 dS_nearestInColumnOf_28 ?_
        obtain ⟨q4, h⟩ := h
        obtain ⟨ht, hf⟩ := h
        refine ki_if_ne (tgt := 53) hx hb dS_nearestInColumnOf_29 (by decide) q4 (fun c2 => ?_) (fun c2 => ?_)
        · have h := ht c2
          obtain ⟨v5, ev5⟩ : ∃ z : Int, z = v1 + 1 := ⟨_, rfl⟩
          refine lv_iinc (v := iI v5) (lv' := [(5, .int (iI v5)), (4, .int (iI v2)), (0, .ref (ad 1)), (1, .int (iI p0)), (2, .int (iI p1)), (3, .int (iI p2))]) hx hb dS_nearestInColumnOf_53 hl (k := 0) rfl (by rw [ev5, ← iI_add]; rfl) (by decide) rfl (fun ls hl => ?_)
          have h := h v5 ev5
          refine lv_goto (tgt := 7) hx hb dS_nearestInColumnOf_56 (by decide) ?_
          exact ih1 v5 v2 ls (lv_sub hl [0, 1, 2, 3, 4, 5] rfl) h
        · have h := hf c2
          refine lv_aload_n hx hb dS_nearestInColumnOf_32 rfl (lv_at hl 2 rfl) ?_
          refine lv_iload_n hx hb dS_nearestInColumnOf_33 rfl (lv_at hl 5 rfl) ?_
          refine lv_iload hx hb dS_nearestInColumnOf_34 (lv_at hl 0 rfl) ?_
          obtain ⟨P1, g1, h⟩ := h
          refine kc_vp (As := [.int (iI p2), .int (iI v1)]) (rest := []) (ci := 1) (q0 := 1) S (c_S_gap l dC dI ad kc nn σ p2 v1 g1) (cwV 2 hts (gV mw_266 mw_268 ps_4 mw_2 k_S_gap) rfl rfl rfl (by decide +kernel) ⟨Nat.le_of_ble_eq_true rfl, Nat.le_of_ble_eq_true rfl⟩) hK hN hP rfl rfl rfl hl.1 rfl (Nat.le_of_ble_eq_true rfl) dS_nearestInColumnOf_36 ⟨Nat.zero_le _, Nat.zero_le _⟩ (fun r2 hp => ?_)
          have h := h r2 hp
          refine lv_istore (lv' := [(6, .int (iI r2)), (5, .int (iI v1)), (4, .int (iI v2)), (0, .ref (ad 1)), (1, .int (iI p0)), (2, .int (iI p1)), (3, .int (iI p2))]) hx hb dS_nearestInColumnOf_39 hl (by decide) rfl (fun ls hl => ?_)
          refine lv_iload hx hb dS_nearestInColumnOf_41 (lv_at hl 2 rfl) ?_
          refine lv_iload hx hb dS_nearestInColumnOf_43 (lv_at hl 0 rfl) ?_
          refine lv_iload hx hb dS_nearestInColumnOf_45 (lv_at hl 0 rfl) ?_
          refine ki_mul hx hb dS_nearestInColumnOf_47 ?_
          obtain ⟨q5, h⟩ := h
          obtain ⟨q6, h⟩ := h
          refine kmn hx hb (hml.trans hl.1.symm) hown (hts _ (gG_in mw_270)) (hts _ (gG_in mw_31)) (hts _ (gG_in mw_3)) (hts _ (gG_in mk_min)) ⟨Nat.le_of_ble_eq_true rfl, Nat.le_of_ble_eq_true rfl⟩ ⟨Nat.zero_le _, Nat.zero_le _⟩ q5 q6 dS_nearestInColumnOf_48 ?_
          refine ki_nm (fun v6 ev6 => ?_)
          have h := h v6 ev6
          refine lv_istore (lv' := [(4, .int (iI v6)), (6, .int (iI r2)), (5, .int (iI v1)), (0, .ref (ad 1)), (1, .int (iI p0)), (2, .int (iI p1)), (3, .int (iI p2))]) hx hb dS_nearestInColumnOf_51 hl (by decide) rfl (fun ls hl => ?_)
          obtain ⟨v7, ev7⟩ : ∃ z : Int, z = v1 + 1 := ⟨_, rfl⟩
          refine lv_iinc (v := iI v7) (lv' := [(5, .int (iI v7)), (4, .int (iI v6)), (6, .int (iI r2)), (0, .ref (ad 1)), (1, .int (iI p0)), (2, .int (iI p1)), (3, .int (iI p2))]) hx hb dS_nearestInColumnOf_53 hl (k := 2) rfl (by rw [ev7, ← iI_add]; rfl) (by decide) rfl (fun ls hl => ?_)
          have h := h v7 ev7
          refine lv_goto (tgt := 7) hx hb dS_nearestInColumnOf_56 (by decide) ?_
          exact ih1 v7 v6 ls (lv_sub hl [0, 1, 3, 4, 5, 6] rfl) h
  exact lW1 k1 (-1) 2147483647 ls (lv_sub hl [0, 1, 2, 3, 4, 5] rfl) h
abbrev rm_S_nearestOverColumns : Room := { frames := 1, cells := 0, slots := 0, locals := 24 }
set_option maxHeartbeats 4000000 in
set_option maxRecDepth 100000 in
theorem c_S_nearestOverColumns (l : Launch) (dC : Nat → ClassId) (dI : Nat → Nat → Nat) (ad : Nat → Nat) (kc : Nat → ClassId) (nn : Nat → Nat) (σ : kM) (p0 : Int) {P : Int → Prop} (h : wp_S_nearestOverColumns nn σ p0 P) : kMp l y_S_nearestOverColumns ws_S_nearestOverColumns rm_S_nearestOverColumns (dC, dI) vwC (tyC kc) (wC ad kc nn) nsG σ [.ref (ad 1), .int (iI p0)] P := by
  refine k_enterP (cc := b_S_nearestOverColumns) (maxL := 5) (ret := (some .int)) (by decide) rfl (Nat.le_of_ble_eq_true rfl) ?_
  intro p e s m below meth c ls S hr hlocks hP hK hN hl
  generalize ([.ref (ad 1), .int (iI p0)] : List Value).toArray = args at S ⊢
  obtain ⟨hx, hb, hml, hown, hts⟩ := id S
  have hl : lv_has ls 5 [(0, .ref (ad 1)), (1, .int (iI p0))] := hl
  unfold wp_S_nearestOverColumns at h
  refine lv_ldc (v := iI 2147483647) hx hb hown (hts _ (gG_in mc_261)) dS_nearestOverColumns_0 ?_
  refine lv_istore_n (lv' := [(2, .int (iI 2147483647)), (0, .ref (ad 1)), (1, .int (iI p0))]) hx hb dS_nearestOverColumns_2 rfl hl (by decide) rfl (fun ls hl => ?_)
  refine lv_iconst (v := iI (-1)) hx hb dS_nearestOverColumns_3 rfl ?_
  refine lv_istore_n (lv' := [(3, .int (iI (-1))), (2, .int (iI 2147483647)), (0, .ref (ad 1)), (1, .int (iI p0))]) hx hb dS_nearestOverColumns_4 rfl hl (by decide) rfl (fun ls hl => ?_)
  obtain ⟨Pe1, k1, h, hk1⟩ := h
  have xW1 : ∀ (v3 : Int) (v4 : Int) (ls : Array Slot), lv_has ls 5 [(2, .int (iI v4))] → Pe1 v3 v4 → W p l e (headSpec ws_S_nearestOverColumns rm_S_nearestOverColumns).room s m args below meth c s.heap [] 0 0 (MQ below (kQp P) args s 0 0 (fun _ => False)) (F0 m 46 ls []) := by
    intro v3 v4 ls hl h
    have h := hk1 v3 v4 h
    refine lv_iload_n hx hb dS_nearestOverColumns_46 rfl (lv_at hl 0 rfl) ?_
    exact k_iretP hx hb hr hlocks dS_nearestOverColumns_47 h
  have lW1 : ∀ (ki1 : Nat) (v1 : Int) (v2 : Int) (ls : Array Slot), lv_has ls 5 [(3, .int (iI v1)), (2, .int (iI v2)), (0, .ref (ad 1)), (1, .int (iI p0))] → lp_S_nearestOverColumns_5 nn p0 σ Pe1 ki1 v1 v2 → W p l e (headSpec ws_S_nearestOverColumns rm_S_nearestOverColumns).room s m args below meth c s.heap [] 0 0 (MQ below (kQp P) args s 0 0 (fun _ => False)) (F0 m 5 ls []) := by
    intro ki1
    induction ki1 with
    | zero => intro v1 v2 ls hl h; exact h.elim
    | succ ki1 ih1 =>
      intro v1 v2 ls hl h
      have h : lpB_S_nearestOverColumns_5 nn p0 σ Pe1 (lp_S_nearestOverColumns_5 nn p0 σ Pe1 ki1) v1 v2 := h
      unfold lpB_S_nearestOverColumns_5 at h
      refine lv_iload_n hx hb dS_nearestOverColumns_5 rfl (lv_at hl 0 rfl) ?_
      refine lv_aload_n hx hb dS_nearestOverColumns_6 rfl (lv_at hl 2 rfl) ?_
      refine k_get (ci := 1) (C := R_S) (T := T_S) (N := 9) hx hb hts (fun w q => gG_in (inG_S w q)) hown hK hP 1 rfl rfl 1 (by decide) (hts _ (gG_in mw_42)) rfl dS_nearestOverColumns_7 ?_
      obtain ⟨q1, h⟩ := h
      obtain ⟨q2, h⟩ := h
      obtain ⟨ht, hf⟩ := h
      refine ki_icmp_gt (tgt := 46) hx hb dS_nearestOverColumns_10 (by decide) q1 q2 (fun c1 => ?_) (fun c1 => ?_)
      · have h := ht c1
        exact xW1 v1 v2 ls (lv_sub hl [1] rfl) h
      · have h := hf c1
        refine lv_aload_n hx hb dS_nearestOverColumns_13 rfl (lv_at hl 2 rfl) ?_
        refine lv_iload_n hx hb dS_nearestOverColumns_14 rfl (lv_at hl 3 rfl) ?_
        refine lv_iload_n hx hb dS_nearestOverColumns_15 rfl (lv_at hl 0 rfl) ?_
        obtain ⟨P1, g1, h⟩ := h
        refine kc_vp (As := [.int (iI p0), .int (iI v1)]) (rest := []) (ci := 1) (q0 := 1) S (c_S_gap l dC dI ad kc nn σ p0 v1 g1) (cwV 2 hts (gV mw_266 mw_268 ps_4 mw_2 k_S_gap) rfl rfl rfl (by decide +kernel) ⟨Nat.le_of_ble_eq_true rfl, Nat.le_of_ble_eq_true rfl⟩) hK hN hP rfl rfl rfl hl.1 rfl (Nat.le_of_ble_eq_true rfl) dS_nearestOverColumns_16 ⟨Nat.zero_le _, Nat.zero_le _⟩ (fun r1 hp => ?_)
        have h := h r1 hp
        refine lv_istore (lv' := [(4, .int (iI r1)), (3, .int (iI v1)), (2, .int (iI v2)), (0, .ref (ad 1)), (1, .int (iI p0))]) hx hb dS_nearestOverColumns_19 hl (by decide) rfl (fun ls hl => ?_)
        refine lv_iload_n hx hb dS_nearestOverColumns_21 rfl (lv_at hl 2 rfl) ?_
        refine lv_iload hx hb dS_nearestOverColumns_22 (lv_at hl 0 rfl) ?_
        refine lv_iload hx hb dS_nearestOverColumns_24 (lv_at hl 0 rfl) ?_
        refine ki_mul hx hb dS_nearestOverColumns_26 ?_
        refine lv_aload_n hx hb dS_nearestOverColumns_27 rfl (lv_at hl 3 rfl) ?_
        refine k_get (ci := 1) (C := R_S) (T := T_S) (N := 9) hx hb hts (fun w q => gG_in (inG_S w q)) hown hK hP 1 rfl rfl 8 (by decide) (hts _ (gG_in mw_49)) rfl dS_nearestOverColumns_28 ?_
        refine lv_iload_n hx hb dS_nearestOverColumns_31 rfl (lv_at hl 1 rfl) ?_
        refine lv_iconst (v := iI 1) hx hb dS_nearestOverColumns_32 rfl ?_
        refine ki_add hx hb dS_nearestOverColumns_33 ?_
        obtain ⟨q3, h⟩ := h
        refine k_iald hx hb hK hP 11 3 (σ 11) rfl rfl q3 dS_nearestOverColumns_34 ?_
        refine ki_add hx hb dS_nearestOverColumns_35 ?_
        obtain ⟨q4, h⟩ := h
        obtain ⟨q5, h⟩ := h
        refine kmn hx hb (hml.trans hl.1.symm) hown (hts _ (gG_in mw_270)) (hts _ (gG_in mw_31)) (hts _ (gG_in mw_3)) (hts _ (gG_in mk_min)) ⟨Nat.le_of_ble_eq_true rfl, Nat.le_of_ble_eq_true rfl⟩ ⟨Nat.zero_le _, Nat.zero_le _⟩ q4 q5 dS_nearestOverColumns_36 ?_
        refine ki_nm (fun v5 ev5 => ?_)
        have h := h v5 ev5
        refine lv_istore_n (lv' := [(2, .int (iI v5)), (4, .int (iI r1)), (3, .int (iI v1)), (0, .ref (ad 1)), (1, .int (iI p0))]) hx hb dS_nearestOverColumns_39 rfl hl (by decide) rfl (fun ls hl => ?_)
        obtain ⟨v6, ev6⟩ : ∃ z : Int, z = v1 + 1 := ⟨_, rfl⟩
        refine lv_iinc (v := iI v6) (lv' := [(3, .int (iI v6)), (2, .int (iI v5)), (4, .int (iI r1)), (0, .ref (ad 1)), (1, .int (iI p0))]) hx hb dS_nearestOverColumns_40 hl (k := 2) rfl (by rw [ev6, ← iI_add]; rfl) (by decide) rfl (fun ls hl => ?_)
        have h := h v6 ev6
        refine lv_goto (tgt := 5) hx hb dS_nearestOverColumns_43 (by decide) ?_
        exact ih1 v6 v5 ls (lv_sub hl [0, 1, 3, 4] rfl) h
  exact lW1 k1 (-1) 2147483647 ls (lv_sub hl [0, 1, 2, 3] rfl) h
abbrev rm_S_measure : Room := { frames := 2, cells := 0, slots := 0, locals := 50 }
set_option maxHeartbeats 4000000 in
set_option maxRecDepth 100000 in
theorem c_S_measure (l : Launch) (dC : Nat → ClassId) (dI : Nat → Nat → Nat) (ad : Nat → Nat) (kc : Nat → ClassId) (nn : Nat → Nat) (σ : kM) (p0 : Int) {P : kM → Prop} (h : wp_S_measure nn σ p0 P) : kMv l y_S_measure ws_S_measure rm_S_measure (dC, dI) vwC (tyC kc) (wC ad kc nn) nsG σ [.ref (ad 1), .int (iI p0)] P := by
  intro sz
  refine k_enter (cc := b_S_measure) (maxL := 4) (ret := none) (by decide) rfl (Nat.le_of_ble_eq_true rfl) ?_
  intro p e s m below meth c ls S hr hlocks hsz hA hW hK hN hl
  generalize va_A ((wC ad kc nn) σ) sz = A at hA hW ⊢
  generalize ([.ref (ad 1), .int (iI p0)] : List Value).toArray = args at S ⊢
  obtain ⟨hx, hb, hml, hown, hts⟩ := id S
  have hl : lv_has ls 4 [(0, .ref (ad 1)), (1, .int (iI p0))] := hl
  unfold wp_S_measure at h
  refine lv_iconst (v := iI 0) hx hb dS_measure_0 rfl ?_
  refine lv_istore_n (lv' := [(2, .int (iI 0)), (0, .ref (ad 1)), (1, .int (iI p0))]) hx hb dS_measure_1 rfl hl (by decide) rfl (fun ls hl => ?_)
  obtain ⟨Pe1, k1, h, hk1⟩ := h
  have xW1 : ∀ (v2 : Int) (s2 : kM) (H : Heap) (locs : List Loc) (ls : Array Slot), kW (dC, dI) vwC A s.heap (wC ad kc nn s2) H locs → lv_has ls 4 [] → Pe1 v2 s2 → W p l e (headSpec ws_S_measure rm_S_measure).room s m args below meth c H locs 0 0 (MQ below (kQv (dC, dI) vwC (wC ad kc nn) P A) args s 0 0 A) (F0 m 88 ls []) := by
    intro v2 s2 H locs ls hW hl h
    have h := hk1 v2 s2 h
    exact k_vret hx hb hr hlocks hW dS_measure_88 h
  have lW3 : ∀ (ki3 : Nat) (v1 : Int) (s1 : kM) (H : Heap) (locs : List Loc) (ls : Array Slot), kW (dC, dI) vwC A s.heap (wC ad kc nn s1) H locs → lv_has ls 4 [(2, .int (iI v1)), (0, .ref (ad 1)), (1, .int (iI p0))] → lp_S_measure_2 nn p0 Pe1 ki3 v1 s1 → W p l e (headSpec ws_S_measure rm_S_measure).room s m args below meth c H locs 0 0 (MQ below (kQv (dC, dI) vwC (wC ad kc nn) P A) args s 0 0 A) (F0 m 2 ls []) := by
    intro ki3
    induction ki3 with
    | zero => intro v1 s1 H locs ls hW hl h; exact h.elim
    | succ ki3 ih3 =>
      intro v1 s1 H locs ls hW hl h
      have h : lpB_S_measure_2 nn p0 Pe1 (lp_S_measure_2 nn p0 Pe1 ki3) v1 s1 := h
      unfold lpB_S_measure_2 at h
      refine lv_iload_n hx hb dS_measure_2 rfl (lv_at hl 0 rfl) ?_
      refine lv_aload_n hx hb dS_measure_3 rfl (lv_at hl 1 rfl) ?_
      refine k_get (ci := 1) (C := R_S) (T := T_S) (N := 9) hx hb hts (fun w q => gG_in (inG_S w q)) hown hK hW.1 1 rfl rfl 3 (by decide) (hts _ (gG_in mw_44)) rfl dS_measure_4 ?_
      obtain ⟨q1, h⟩ := h
      obtain ⟨q2, h⟩ := h
      obtain ⟨ht, hf⟩ := h
      refine ki_icmp_ge (tgt := 88) hx hb dS_measure_7 (by decide) q1 q2 (fun c1 => ?_) (fun c1 => ?_)
      · have h := ht c1
        exact xW1 v1 s1 _ _ ls hW (lv_sub hl [] rfl) h
      · have h := hf c1
        refine lv_iconst (v := iI (-1)) hx hb dS_measure_10 rfl ?_
        refine lv_istore_n (lv' := [(3, .int (iI (-1))), (2, .int (iI v1)), (0, .ref (ad 1)), (1, .int (iI p0))]) hx hb dS_measure_11 rfl hl (by decide) rfl (fun ls hl => ?_)
        obtain ⟨Pe2, k2, h, hk2⟩ := h
        have xW3 : ∀ (v4 : Int) (s4 : kM) (H : Heap) (locs : List Loc) (ls : Array Slot), kW (dC, dI) vwC A s.heap (wC ad kc nn s4) H locs → lv_has ls 4 [(2, .int (iI v1)), (0, .ref (ad 1)), (1, .int (iI p0))] → Pe2 v4 s4 → W p l e (headSpec ws_S_measure rm_S_measure).room s m args below meth c H locs 0 0 (MQ below (kQv (dC, dI) vwC (wC ad kc nn) P A) args s 0 0 A) (F0 m 41 ls []) := by
          intro v4 s4 H locs ls hW hl h
          have h := hk2 v4 s4 h
          refine lv_iconst (v := iI 0) hx hb dS_measure_41 rfl ?_
          refine lv_istore_n (lv' := [(3, .int (iI 0)), (2, .int (iI v1)), (0, .ref (ad 1)), (1, .int (iI p0))]) hx hb dS_measure_42 rfl hl (by decide) rfl (fun ls hl => ?_)
          obtain ⟨Pe3, k3, h, hk3⟩ := h
          have xW2 : ∀ (v6 : Int) (s6 : kM) (H : Heap) (locs : List Loc) (ls : Array Slot), kW (dC, dI) vwC A s.heap (wC ad kc nn s6) H locs → lv_has ls 4 [(2, .int (iI v1)), (0, .ref (ad 1)), (1, .int (iI p0))] → Pe3 v6 s6 → W p l e (headSpec ws_S_measure rm_S_measure).room s m args below meth c H locs 0 0 (MQ below (kQv (dC, dI) vwC (wC ad kc nn) P A) args s 0 0 A) (F0 m 82 ls []) := by
            intro v6 s6 H locs ls hW hl h
            have h := hk3 v6 s6 h
            obtain ⟨v7, ev7⟩ : ∃ z : Int, z = v1 + 1 := ⟨_, rfl⟩
            refine lv_iinc (v := iI v7) (lv' := [(2, .int (iI v7)), (0, .ref (ad 1)), (1, .int (iI p0))]) hx hb dS_measure_82 hl (k := 0) rfl (by rw [ev7, ← iI_add]; rfl) (by decide) rfl (fun ls hl => ?_)
            have h := h v7 ev7
            refine lv_goto (tgt := 2) hx hb dS_measure_85 (by decide) ?_
            exact ih3 v7 s6 _ _ ls hW (lv_sub hl [0, 1, 2] rfl) h
          have lW1 : ∀ (ki1 : Nat) (v5 : Int) (s5 : kM) (H : Heap) (locs : List Loc) (ls : Array Slot), kW (dC, dI) vwC A s.heap (wC ad kc nn s5) H locs → lv_has ls 4 [(3, .int (iI v5)), (2, .int (iI v1)), (0, .ref (ad 1)), (1, .int (iI p0))] → lp_S_measure_43 nn p0 v1 Pe3 ki1 v5 s5 → W p l e (headSpec ws_S_measure rm_S_measure).room s m args below meth c H locs 0 0 (MQ below (kQv (dC, dI) vwC (wC ad kc nn) P A) args s 0 0 A) (F0 m 43 ls []) := by
            intro ki1
            induction ki1 with
            | zero => intro v5 s5 H locs ls hW hl h; exact h.elim
            | succ ki1 ih1 =>
              intro v5 s5 H locs ls hW hl h
              have h : lpB_S_measure_43 nn p0 v1 Pe3 (lp_S_measure_43 nn p0 v1 Pe3 ki1) v5 s5 := h
              unfold lpB_S_measure_43 at h
              refine lv_iload_n hx hb dS_measure_43 rfl (lv_at hl 0 rfl) ?_
              refine lv_aload_n hx hb dS_measure_44 rfl (lv_at hl 2 rfl) ?_
              refine k_get (ci := 1) (C := R_S) (T := T_S) (N := 9) hx hb hts (fun w q => gG_in (inG_S w q)) hown hK hW.1 1 rfl rfl 3 (by decide) (hts _ (gG_in mw_44)) rfl dS_measure_45 ?_
              obtain ⟨q3, h⟩ := h
              obtain ⟨q4, h⟩ := h
              obtain ⟨ht, hf⟩ := h
              refine ki_icmp_ge (tgt := 82) hx hb dS_measure_48 (by decide) q3 q4 (fun c2 => ?_) (fun c2 => ?_)
              · have h := ht c2
                exact xW2 v5 s5 _ _ ls hW (lv_sub hl [1, 2, 3] rfl) h
              · have h := hf c2
                refine lv_aload_n hx hb dS_measure_51 rfl (lv_at hl 2 rfl) ?_
                refine k_get (ci := 1) (C := R_S) (T := T_S) (N := 9) hx hb hts (fun w q => gG_in (inG_S w q)) hown hK hW.1 1 rfl rfl 6 (by decide) (hts _ (gG_in mw_47)) rfl dS_measure_52 ?_
                refine lv_iload_n hx hb dS_measure_55 rfl (lv_at hl 3 rfl) ?_
                refine lv_aload_n hx hb dS_measure_56 rfl (lv_at hl 2 rfl) ?_
                refine k_get (ci := 1) (C := R_S) (T := T_S) (N := 9) hx hb hts (fun w q => gG_in (inG_S w q)) hown hK hW.1 1 rfl rfl 3 (by decide) (hts _ (gG_in mw_44)) rfl dS_measure_57 ?_
                refine ki_mul hx hb dS_measure_60 ?_
                refine lv_iload_n hx hb dS_measure_61 rfl (lv_at hl 1 rfl) ?_
                refine ki_add hx hb dS_measure_62 ?_
                refine lv_aload_n hx hb dS_measure_63 rfl (lv_at hl 2 rfl) ?_
                refine k_get (ci := 1) (C := R_S) (T := T_S) (N := 9) hx hb hts (fun w q => gG_in (inG_S w q)) hown hK hW.1 1 rfl rfl 3 (by decide) (hts _ (gG_in mw_44)) rfl dS_measure_64 ?_
                refine ki_mul hx hb dS_measure_67 ?_
                refine lv_iload_n hx hb dS_measure_68 rfl (lv_at hl 0 rfl) ?_
                refine ki_add hx hb dS_measure_69 ?_
                refine lv_aload_n hx hb dS_measure_70 rfl (lv_at hl 2 rfl) ?_
                refine lv_iload_n hx hb dS_measure_71 rfl (lv_at hl 0 rfl) ?_
                obtain ⟨P1, g1, h⟩ := h
                refine kc_vp (As := [.int (iI v5)]) (rest := [.int (iI ((((p0 * (s5 1 3)) + v1) * (s5 1 3)) + v5)), .ref (ad 9)]) (ci := 1) (q0 := 1) S (c_S_nearestOverColumns l dC dI ad kc nn s5 v5 g1) (cwV 1 hts (gV mw_271 mw_273 ps_5 mw_2 k_S_nearestOverColumns) rfl rfl rfl (by decide +kernel) ⟨Nat.le_of_ble_eq_true rfl, Nat.le_of_ble_eq_true rfl⟩) hK hN hW.1 rfl rfl rfl hl.1 rfl (Nat.le_of_ble_eq_true rfl) dS_measure_72 ⟨Nat.zero_le _, Nat.zero_le _⟩ (fun r1 hp => ?_)
                have h := h r1 hp
                obtain ⟨q5, h⟩ := h
                obtain ⟨s7, es7⟩ : ∃ z : kM, z = va_up s5 9 (va_up (s5 9) ((((p0 * (s5 1 3)) + v1) * (s5 1 3)) + v5).toNat r1) := ⟨_, rfl⟩
                refine k_iast (ws' := wC ad kc nn s7) hx hb hK hW 9 1 (s5 9) rfl rfl q5 (by rw [es7]; exact wC_a9 ..) dS_measure_75 (fun H locs hW => ?_)
                have h := h s7 es7
                obtain ⟨v8, ev8⟩ : ∃ z : Int, z = v5 + 1 := ⟨_, rfl⟩
                refine lv_iinc (v := iI v8) (lv' := [(3, .int (iI v8)), (2, .int (iI v1)), (0, .ref (ad 1)), (1, .int (iI p0))]) hx hb dS_measure_76 hl (k := 0) rfl (by rw [ev8, ← iI_add]; rfl) (by decide) rfl (fun ls hl => ?_)
                have h := h v8 ev8
                refine lv_goto (tgt := 43) hx hb dS_measure_79 (by decide) ?_
                exact ih1 v8 s7 _ _ ls hW (lv_sub hl [0, 1, 2, 3] rfl) h
          exact lW1 k3 0 s4 _ _ ls hW (lv_sub hl [0, 1, 2, 3] rfl) h
        have lW2 : ∀ (ki2 : Nat) (v3 : Int) (s3 : kM) (H : Heap) (locs : List Loc) (ls : Array Slot), kW (dC, dI) vwC A s.heap (wC ad kc nn s3) H locs → lv_has ls 4 [(3, .int (iI v3)), (2, .int (iI v1)), (0, .ref (ad 1)), (1, .int (iI p0))] → lp_S_measure_12 nn p0 v1 Pe2 ki2 v3 s3 → W p l e (headSpec ws_S_measure rm_S_measure).room s m args below meth c H locs 0 0 (MQ below (kQv (dC, dI) vwC (wC ad kc nn) P A) args s 0 0 A) (F0 m 12 ls []) := by
          intro ki2
          induction ki2 with
          | zero => intro v3 s3 H locs ls hW hl h; exact h.elim
          | succ ki2 ih2 =>
            intro v3 s3 H locs ls hW hl h
            have h : lpB_S_measure_12 nn p0 v1 Pe2 (lp_S_measure_12 nn p0 v1 Pe2 ki2) v3 s3 := h
            unfold lpB_S_measure_12 at h
            refine lv_iload_n hx hb dS_measure_12 rfl (lv_at hl 0 rfl) ?_
            refine lv_aload_n hx hb dS_measure_13 rfl (lv_at hl 2 rfl) ?_
            refine k_get (ci := 1) (C := R_S) (T := T_S) (N := 9) hx hb hts (fun w q => gG_in (inG_S w q)) hown hK hW.1 1 rfl rfl 1 (by decide) (hts _ (gG_in mw_42)) rfl dS_measure_14 ?_
            obtain ⟨q6, h⟩ := h
            obtain ⟨q7, h⟩ := h
            obtain ⟨ht, hf⟩ := h
            refine ki_icmp_gt (tgt := 41) hx hb dS_measure_17 (by decide) q6 q7 (fun c3 => ?_) (fun c3 => ?_)
            · have h := ht c3
              exact xW3 v3 s3 _ _ ls hW (lv_sub hl [1, 2, 3] rfl) h
            · have h := hf c3
              refine lv_aload_n hx hb dS_measure_20 rfl (lv_at hl 2 rfl) ?_
              refine k_get (ci := 1) (C := R_S) (T := T_S) (N := 9) hx hb hts (fun w q => gG_in (inG_S w q)) hown hK hW.1 1 rfl rfl 8 (by decide) (hts _ (gG_in mw_49)) rfl dS_measure_21 ?_
              refine lv_iload_n hx hb dS_measure_24 rfl (lv_at hl 0 rfl) ?_
              refine lv_iconst (v := iI 1) hx hb dS_measure_25 rfl ?_
              refine ki_add hx hb dS_measure_26 ?_
              refine lv_aload_n hx hb dS_measure_27 rfl (lv_at hl 2 rfl) ?_
              refine lv_iload_n hx hb dS_measure_28 rfl (lv_at hl 3 rfl) ?_
              refine lv_iload_n hx hb dS_measure_29 rfl (lv_at hl 0 rfl) ?_
              refine lv_iload_n hx hb dS_measure_30 rfl (lv_at hl 1 rfl) ?_
              obtain ⟨P2, g2, h⟩ := h
              refine kc_vp (As := [.int (iI p0), .int (iI v3), .int (iI v1)]) (rest := [.int (iI (v3 + 1)), .ref (ad 11)]) (ci := 1) (q0 := 1) S (c_S_nearestInColumnOf l dC dI ad kc nn s3 p0 v3 v1 g2) (cwV 3 hts (gV mw_257 mw_259 ps_2 mw_2 k_S_nearestInColumnOf) rfl rfl rfl (by decide +kernel) ⟨Nat.le_of_ble_eq_true rfl, Nat.le_of_ble_eq_true rfl⟩) hK hN hW.1 rfl rfl rfl hl.1 rfl (Nat.le_of_ble_eq_true rfl) dS_measure_31 ⟨Nat.zero_le _, Nat.zero_le _⟩ (fun r2 hp => ?_)
              have h := h r2 hp
              obtain ⟨q8, h⟩ := h
              obtain ⟨s8, es8⟩ : ∃ z : kM, z = va_up s3 11 (va_up (s3 11) (v3 + 1).toNat r2) := ⟨_, rfl⟩
              refine k_iast (ws' := wC ad kc nn s8) hx hb hK hW 11 3 (s3 11) rfl rfl q8 (by rw [es8]; exact wC_a11 ..) dS_measure_34 (fun H locs hW => ?_)
              have h := h s8 es8
              obtain ⟨v9, ev9⟩ : ∃ z : Int, z = v3 + 1 := ⟨_, rfl⟩
              refine lv_iinc (v := iI v9) (lv' := [(3, .int (iI v9)), (2, .int (iI v1)), (0, .ref (ad 1)), (1, .int (iI p0))]) hx hb dS_measure_35 hl (k := 0) rfl (by rw [ev9, ← iI_add]; rfl) (by decide) rfl (fun ls hl => ?_)
              have h := h v9 ev9
              refine lv_goto (tgt := 12) hx hb dS_measure_38 (by decide) ?_
              exact ih2 v9 s8 _ _ ls hW (lv_sub hl [0, 1, 2, 3] rfl) h
        exact lW2 k2 (-1) s1 _ _ ls hW (lv_sub hl [0, 1, 2, 3] rfl) h
  exact lW3 k1 0 σ _ _ ls hW (lv_sub hl [0, 1, 2] rfl) h
abbrev rm_S_measureWhatChanged : Room := { frames := 3, cells := 0, slots := 0, locals := 73 }
set_option maxHeartbeats 4000000 in
set_option maxRecDepth 100000 in
theorem c_S_measureWhatChanged (l : Launch) (dC : Nat → ClassId) (dI : Nat → Nat → Nat) (ad : Nat → Nat) (kc : Nat → ClassId) (nn : Nat → Nat) (σ : kM) {P : kM → Prop} (h : wp_S_measureWhatChanged nn σ P) : kMv l y_S_measureWhatChanged ws_S_measureWhatChanged rm_S_measureWhatChanged (dC, dI) vwC (tyC kc) (wC ad kc nn) nsG σ [.ref (ad 1)] P := by
  intro sz
  refine k_enter (cc := b_S_measureWhatChanged) (maxL := 2) (ret := none) (by decide) rfl (Nat.le_of_ble_eq_true rfl) ?_
  intro p e s m below meth c ls S hr hlocks hsz hA hW hK hN hl
  generalize va_A ((wC ad kc nn) σ) sz = A at hA hW ⊢
  generalize ([.ref (ad 1)] : List Value).toArray = args at S ⊢
  obtain ⟨hx, hb, hml, hown, hts⟩ := id S
  have hl : lv_has ls 2 [(0, .ref (ad 1))] := hl
  unfold wp_S_measureWhatChanged at h
  refine lv_iconst (v := iI 0) hx hb dS_measureWhatChanged_0 rfl ?_
  refine lv_istore_n (lv' := [(1, .int (iI 0)), (0, .ref (ad 1))]) hx hb dS_measureWhatChanged_1 rfl hl (by decide) rfl (fun ls hl => ?_)
  obtain ⟨Pe1, k1, h, hk1⟩ := h
  have xW1 : ∀ (v2 : Int) (s2 : kM) (H : Heap) (locs : List Loc) (ls : Array Slot), kW (dC, dI) vwC A s.heap (wC ad kc nn s2) H locs → lv_has ls 2 [] → Pe1 v2 s2 → W p l e (headSpec ws_S_measureWhatChanged rm_S_measureWhatChanged).room s m args below meth c H locs 0 0 (MQ below (kQv (dC, dI) vwC (wC ad kc nn) P A) args s 0 0 A) (F0 m 37 ls []) := by
    intro v2 s2 H locs ls hW hl h
    have h := hk1 v2 s2 h
    exact k_vret hx hb hr hlocks hW dS_measureWhatChanged_37 h
  have lW1 : ∀ (ki1 : Nat) (v1 : Int) (s1 : kM) (H : Heap) (locs : List Loc) (ls : Array Slot), kW (dC, dI) vwC A s.heap (wC ad kc nn s1) H locs → lv_has ls 2 [(1, .int (iI v1)), (0, .ref (ad 1))] → lp_S_measureWhatChanged_2 nn Pe1 ki1 v1 s1 → W p l e (headSpec ws_S_measureWhatChanged rm_S_measureWhatChanged).room s m args below meth c H locs 0 0 (MQ below (kQv (dC, dI) vwC (wC ad kc nn) P A) args s 0 0 A) (F0 m 2 ls []) := by
    intro ki1
    induction ki1 with
    | zero => intro v1 s1 H locs ls hW hl h; exact h.elim
    | succ ki1 ih1 =>
      intro v1 s1 H locs ls hW hl h
      have h : lpB_S_measureWhatChanged_2 nn Pe1 (lp_S_measureWhatChanged_2 nn Pe1 ki1) v1 s1 := h
      unfold lpB_S_measureWhatChanged_2 at h
      refine lv_iload_n hx hb dS_measureWhatChanged_2 rfl (lv_at hl 0 rfl) ?_
      refine lv_aload_n hx hb dS_measureWhatChanged_3 rfl (lv_at hl 1 rfl) ?_
      refine k_get (ci := 1) (C := R_S) (T := T_S) (N := 9) hx hb hts (fun w q => gG_in (inG_S w q)) hown hK hW.1 1 rfl rfl 0 (by decide) (hts _ (gG_in mw_41)) rfl dS_measureWhatChanged_4 ?_
      obtain ⟨q1, h⟩ := h
      obtain ⟨q2, h⟩ := h
      obtain ⟨ht, hf⟩ := h
      refine ki_icmp_ge (tgt := 37) hx hb dS_measureWhatChanged_7 (by decide) q1 q2 (fun c1 => ?_) (fun c1 => ?_)
      · have h := ht c1
        exact xW1 v1 s1 _ _ ls hW (lv_sub hl [] rfl) h
      · have h := hf c1
        refine lv_aload_n hx hb dS_measureWhatChanged_10 rfl (lv_at hl 1 rfl) ?_
        refine k_get (ci := 1) (C := R_S) (T := T_S) (N := 9) hx hb hts (fun w q => gG_in (inG_S w q)) hown hK hW.1 1 rfl rfl 7 (by decide) (hts _ (gG_in mw_48)) rfl dS_measureWhatChanged_11 ?_
        refine lv_iload_n hx hb dS_measureWhatChanged_14 rfl (lv_at hl 0 rfl) ?_
        obtain ⟨q3, h⟩ := h
        refine k_zald hx hb hK hW.1 10 2 (s1 10) rfl rfl q3 dS_measureWhatChanged_15 ?_
        obtain ⟨q4, h⟩ := h
        obtain ⟨ht, hf⟩ := h
        refine ki_if_eq (tgt := 31) hx hb dS_measureWhatChanged_16 (by decide) q4 (fun c2 => ?_) (fun c2 => ?_)
        · have h := ht c2
          obtain ⟨v3, ev3⟩ : ∃ z : Int, z = v1 + 1 := ⟨_, rfl⟩
          refine lv_iinc (v := iI v3) (lv' := [(1, .int (iI v3)), (0, .ref (ad 1))]) hx hb dS_measureWhatChanged_31 hl (k := 0) rfl (by rw [ev3, ← iI_add]; rfl) (by decide) rfl (fun ls hl => ?_)
          have h := h v3 ev3
          refine lv_goto (tgt := 2) hx hb dS_measureWhatChanged_34 (by decide) ?_
          exact ih1 v3 s1 _ _ ls hW (lv_sub hl [0, 1] rfl) h
        · have h := hf c2
          refine lv_aload_n hx hb dS_measureWhatChanged_19 rfl (lv_at hl 1 rfl) ?_
          refine lv_iload_n hx hb dS_measureWhatChanged_20 rfl (lv_at hl 0 rfl) ?_
          obtain ⟨P1, g1, h⟩ := h
          refine kc_vv (As := [.int (iI v1)]) (rest := []) (ci := 1) (q0 := 1) S (c_S_measure l dC dI ad kc nn s1 v1 g1) (cwV 1 hts (gV mw_253 mw_255 ps_1 mw_2 k_S_measure) rfl rfl rfl (by decide +kernel) ⟨Nat.le_of_ble_eq_true rfl, Nat.le_of_ble_eq_true rfl⟩) hK hN hA hW (fun _ => rfl) rfl rfl rfl hl.1 rfl (Nat.le_of_ble_eq_true rfl) dS_measureWhatChanged_21 ⟨Nat.zero_le _, Nat.zero_le _⟩ (fun s3 H locs hp hW => ?_)
          have h := h s3 hp
          refine lv_aload_n hx hb dS_measureWhatChanged_24 rfl (lv_at hl 1 rfl) ?_
          refine k_get (ci := 1) (C := R_S) (T := T_S) (N := 9) hx hb hts (fun w q => gG_in (inG_S w q)) hown hK hW.1 1 rfl rfl 7 (by decide) (hts _ (gG_in mw_48)) rfl dS_measureWhatChanged_25 ?_
          refine lv_iload_n hx hb dS_measureWhatChanged_28 rfl (lv_at hl 0 rfl) ?_
          refine lv_iconst (v := iI 0) hx hb dS_measureWhatChanged_29 rfl ?_
          obtain ⟨q5, h⟩ := h
          obtain ⟨s4, es4⟩ : ∃ z : kM, z = va_up s3 10 (va_up (s3 10) v1.toNat 0) := ⟨_, rfl⟩
          refine k_zast (ws' := wC ad kc nn s4) hx hb hK hW 10 2 (s3 10) rfl rfl q5 (by decide) (by rw [es4]; exact wC_a10 ..) dS_measureWhatChanged_30 (fun H locs hW => ?_)
          have h := h s4 es4
          obtain ⟨v4, ev4⟩ : ∃ z : Int, z = v1 + 1 := ⟨_, rfl⟩
          refine lv_iinc (v := iI v4) (lv' := [(1, .int (iI v4)), (0, .ref (ad 1))]) hx hb dS_measureWhatChanged_31 hl (k := 0) rfl (by rw [ev4, ← iI_add]; rfl) (by decide) rfl (fun ls hl => ?_)
          have h := h v4 ev4
          refine lv_goto (tgt := 2) hx hb dS_measureWhatChanged_34 (by decide) ?_
          exact ih1 v4 s4 _ _ ls hW (lv_sub hl [0, 1] rfl) h
  exact lW1 k1 0 σ _ _ ls hW (lv_sub hl [0, 1] rfl) h
