abbrev rm_P_leaf : Room := { frames := 6, cells := 0, slots := 0, locals := 82 }
set_option maxHeartbeats 4000000 in
set_option maxRecDepth 100000 in
theorem c_P_leaf (l : Launch) (dC : Nat → ClassId) (dI : Nat → Nat → Nat) (ad : Nat → Nat) (kc : Nat → ClassId) (nn : Nat → Nat) (σ : kM) (p0 : Int) (p1 : Int) {P : Int → kM → Prop} (h : wp_P_leaf nn σ p0 p1 P (fun _ _ => False)) : kMi l y_P_leaf ws_P_leaf rm_P_leaf (dC, dI) vwC (tyC kc) (wC ad kc nn) nsG σ [.ref (ad 0), .int (iI p0), .int (iI p1)] P := by
  intro sz
  refine k_enter (cc := b_P_leaf) (maxL := 3) (ret := (some .int)) (by decide) rfl (Nat.le_of_ble_eq_true rfl) ?_
  intro p e s m below meth c ls S hr hlocks hsz hA hW hK hN hl
  generalize va_A ((wC ad kc nn) σ) sz = A at hA hW ⊢
  generalize ([.ref (ad 0), .int (iI p0), .int (iI p1)] : List Value).toArray = args at S ⊢
  obtain ⟨hx, hb, hml, hown, hts⟩ := id S
  have hl : lv_has ls 3 [(0, .ref (ad 0)), (1, .int (iI p0)), (2, .int (iI p1))] := hl
  unfold wp_P_leaf at h
  refine lv_iload_n hx hb dP_leaf_0 rfl (lv_at hl 1 rfl) ?_
  refine lv_iconst (v := iI 1) hx hb dP_leaf_1 rfl ?_
  refine lv_sipush (v := iI 500) hx hb dP_leaf_2 (by decide) ?_
  obtain ⟨P1, g1, h⟩ := h
  refine kc_sp (As := [.int (iI p0), .int (iI 1), .int (iI 500)]) (rest := []) S (c_P_isWithin l dC dI (tyC kc) (wC ad kc nn) nn σ p0 1 500 g1) (cwS 3 hts (gS mw_425 mw_332 mw_1 k_P_isWithin) rfl rfl rfl (by decide +kernel) ⟨Nat.le_of_ble_eq_true rfl, Nat.le_of_ble_eq_true rfl⟩) hK hN hW.1 rfl hl.1 rfl (Nat.le_of_ble_eq_true rfl) dP_leaf_5 ⟨Nat.zero_le _, Nat.zero_le _⟩ (fun r1 hp => ?_)
  have h := h r1 hp
  obtain ⟨q1, h⟩ := h
  obtain ⟨ht, hf⟩ := h
  refine ki_if_eq (tgt := 21) hx hb dP_leaf_8 (by decide) q1 (fun c1 => ?_) (fun c1 => ?_)
  · have h := ht c1
    exact False.elim h
  · have h := hf c1
    refine lv_iload_n hx hb dP_leaf_11 rfl (lv_at hl 2 rfl) ?_
    refine lv_iconst (v := iI 0) hx hb dP_leaf_12 rfl ?_
    refine lv_ldc (v := iI 1000000) hx hb hown (hts _ (gG_in mc_565)) dP_leaf_13 ?_
    obtain ⟨P2, g2, h⟩ := h
    refine kc_sp (As := [.int (iI p1), .int (iI 0), .int (iI 1000000)]) (rest := []) S (c_P_isWithin l dC dI (tyC kc) (wC ad kc nn) nn σ p1 0 1000000 g2) (cwS 3 hts (gS mw_425 mw_332 mw_1 k_P_isWithin) rfl rfl rfl (by decide +kernel) ⟨Nat.le_of_ble_eq_true rfl, Nat.le_of_ble_eq_true rfl⟩) hK hN hW.1 rfl hl.1 rfl (Nat.le_of_ble_eq_true rfl) dP_leaf_15 ⟨Nat.zero_le _, Nat.zero_le _⟩ (fun r2 hp => ?_)
    have h := h r2 hp
    obtain ⟨q2, h⟩ := h
    obtain ⟨ht, hf⟩ := h
    refine ki_if_ne (tgt := 31) hx hb dP_leaf_18 (by decide) q2 (fun c2 => ?_) (fun c2 => ?_)
    · have h := ht c2
      refine lv_aload_n hx hb dP_leaf_31 rfl (lv_at hl 0 rfl) ?_
      refine k_get (ci := 0) (C := R_P) (T := T_P) (N := 7) hx hb hts (fun w q => gG_in (inG_P w q)) hown hK hW.1 0 rfl rfl 4 (by decide) (hts _ (gG_in mw_219)) rfl dP_leaf_32 ?_
      obtain ⟨P3, g3, h⟩ := h
      refine kc_vp (As := []) (rest := []) (ci := 5) (q0 := 5) S (c_L_isFull l dC dI ad kc nn σ g3) (cwV 0 hts (gV mw_567 mw_568 mw_569 mw_7 k_L_isFull) rfl rfl rfl (by decide +kernel) ⟨Nat.le_of_ble_eq_true rfl, Nat.le_of_ble_eq_true rfl⟩) hK hN hW.1 rfl rfl rfl hl.1 rfl (Nat.le_of_ble_eq_true rfl) dP_leaf_35 ⟨Nat.zero_le _, Nat.zero_le _⟩ (fun r3 hp => ?_)
      have h := h r3 hp
      obtain ⟨q3, h⟩ := h
      obtain ⟨ht, hf⟩ := h
      refine ki_if_eq (tgt := 51) hx hb dP_leaf_38 (by decide) q3 (fun c3 => ?_) (fun c3 => ?_)
      · have h := ht c3
        refine lv_aload_n hx hb dP_leaf_51 rfl (lv_at hl 0 rfl) ?_
        refine k_get (ci := 0) (C := R_P) (T := T_P) (N := 7) hx hb hts (fun w q => gG_in (inG_P w q)) hown hK hW.1 0 rfl rfl 5 (by decide) (hts _ (gG_in mw_220)) rfl dP_leaf_52 ?_
        obtain ⟨P4, g4, h⟩ := h
        refine kc_vv (As := []) (rest := []) (ci := 6) (q0 := 6) S (c_C_forget l dC dI ad kc nn σ g4) (cwV 0 hts (gV mw_414 mw_415 mw_416 mw_8 k_C_forget) rfl rfl rfl (by decide +kernel) ⟨Nat.le_of_ble_eq_true rfl, Nat.le_of_ble_eq_true rfl⟩) hK hN hA hW (fun _ => rfl) rfl rfl rfl hl.1 rfl (Nat.le_of_ble_eq_true rfl) dP_leaf_55 ⟨Nat.zero_le _, Nat.zero_le _⟩ (fun s1 H locs hp hW => ?_)
        have h := h s1 hp
        refine lv_aload_n hx hb dP_leaf_58 rfl (lv_at hl 0 rfl) ?_
        refine k_get (ci := 0) (C := R_P) (T := T_P) (N := 7) hx hb hts (fun w q => gG_in (inG_P w q)) hown hK hW.1 0 rfl rfl 4 (by decide) (hts _ (gG_in mw_219)) rfl dP_leaf_59 ?_
        refine lv_iload_n hx hb dP_leaf_62 rfl (lv_at hl 1 rfl) ?_
        refine lv_iload_n hx hb dP_leaf_63 rfl (lv_at hl 2 rfl) ?_
        obtain ⟨P5, g5, h⟩ := h
        refine kc_vi (As := [.int (iI p0), .int (iI p1)]) (rest := []) (ci := 5) (q0 := 5) S (c_L_add l dC dI ad kc nn s1 p0 p1 g5) (cwV 2 hts (gV mw_572 mw_573 mw_574 mw_7 k_L_add) rfl rfl rfl (by decide +kernel) ⟨Nat.le_of_ble_eq_true rfl, Nat.le_of_ble_eq_true rfl⟩) hK hN hA hW (fun _ => rfl) rfl rfl rfl hl.1 rfl (Nat.le_of_ble_eq_true rfl) dP_leaf_64 ⟨Nat.zero_le _, Nat.zero_le _⟩ (fun r4 s2 H locs hp hW => ?_)
        have h := h r4 s2 hp
        exact k_iret hx hb hr hlocks hW dP_leaf_67 h
      · have h := hf c3
        exact False.elim h
    · have h := hf c2
      exact False.elim h
abbrev rm_L_has : Room := { frames := 1, cells := 0, slots := 0, locals := 22 }
set_option maxHeartbeats 4000000 in
set_option maxRecDepth 100000 in
theorem c_L_has (l : Launch) (dC : Nat → ClassId) (dI : Nat → Nat → Nat) (ad : Nat → Nat) (kc : Nat → ClassId) (nn : Nat → Nat) (σ : kM) (p0 : Int) {P : Int → Prop} (h : wp_L_has nn σ p0 P) : kMp l y_L_has ws_L_has rm_L_has (dC, dI) vwC (tyC kc) (wC ad kc nn) nsG σ [.ref (ad 5), .int (iI p0)] P := by
  refine k_enterP (cc := b_L_has) (maxL := 2) (ret := (some .boolean)) (by decide) rfl (Nat.le_of_ble_eq_true rfl) ?_
  intro p e s m below meth c ls S hr hlocks hP hK hN hl
  generalize ([.ref (ad 5), .int (iI p0)] : List Value).toArray = args at S ⊢
  obtain ⟨hx, hb, hml, hown, hts⟩ := id S
  have hl : lv_has ls 2 [(0, .ref (ad 5)), (1, .int (iI p0))] := hl
  unfold wp_L_has at h
  refine lv_iload_n hx hb dL_has_0 rfl (lv_at hl 1 rfl) ?_
  refine lv_iconst (v := iI 0) hx hb dL_has_1 rfl ?_
  refine lv_aload_n hx hb dL_has_2 rfl (lv_at hl 0 rfl) ?_
  refine k_get (ci := 5) (C := R_L) (T := T_L) (N := 4) hx hb hts (fun w q => gG_in (inG_L w q)) hown hK hP 5 rfl rfl 3 (by decide) (hts _ (gG_in mw_151)) rfl dL_has_3 ?_
  refine lv_iconst (v := iI 1) hx hb dL_has_6 rfl ?_
  refine ki_sub hx hb dL_has_7 ?_
  obtain ⟨P1, g1, h⟩ := h
  refine kc_np (As := [.int (iI p0), .int (iI 0), .int (iI ((σ 5 3) - 1))]) (rest := []) S (c_P_isWithin l dC dI (tyC kc) (wC ad kc nn) nn σ p0 0 ((σ 5 3) - 1) g1) ⟨va_cnB 3 hts (gG_good k_P_isWithin) rfl rfl rfl (hN _ (List.mem_of_getElem? (i := 7) rfl)) (hts _ (gG_in mw_1)) (by decide +kernel) ⟨Nat.le_of_ble_eq_true rfl, Nat.le_of_ble_eq_true rfl⟩, hts _ (gG_in mw_332), trivial⟩ hK hN hP rfl hl.1 rfl (Nat.le_of_ble_eq_true rfl) dL_has_8 ⟨Nat.zero_le _, Nat.zero_le _⟩ (fun r1 hp => ?_)
  have h := h r1 hp
  exact k_zretP hx hb hr hlocks dL_has_11 h.1 h.2
abbrev rm_L_barsAny : Room := { frames := 0, cells := 0, slots := 0, locals := 0 }
set_option maxHeartbeats 4000000 in
set_option maxRecDepth 100000 in
theorem c_L_barsAny (l : Launch) (dC : Nat → ClassId) (dI : Nat → Nat → Nat) (ad : Nat → Nat) (kc : Nat → ClassId) (nn : Nat → Nat) (σ : kM) (p0 : Int) (p1 : Int) {P : Int → Prop} (h : wp_L_barsAny nn σ p0 p1 P) : kMp l y_L_barsAny ws_L_barsAny rm_L_barsAny (dC, dI) vwC (tyC kc) (wC ad kc nn) nsG σ [.ref (ad 5), .int (iI p0), .int (iI p1)] P := by
  refine k_enterP (cc := b_L_barsAny) (maxL := 3) (ret := (some .boolean)) (by decide) rfl (Nat.le_of_ble_eq_true rfl) ?_
  intro p e s m below meth c ls S hr hlocks hP hK hN hl
  generalize ([.ref (ad 5), .int (iI p0), .int (iI p1)] : List Value).toArray = args at S ⊢
  obtain ⟨hx, hb, hml, hown, hts⟩ := id S
  have hl : lv_has ls 3 [(0, .ref (ad 5)), (1, .int (iI p0)), (2, .int (iI p1))] := hl
  unfold wp_L_barsAny at h
  refine lv_aload_n hx hb dL_barsAny_0 rfl (lv_at hl 0 rfl) ?_
  refine k_get (ci := 5) (C := R_L) (T := T_L) (N := 4) hx hb hts (fun w q => gG_in (inG_L w q)) hown hK hP 5 rfl rfl 2 (by decide) (hts _ (gG_in mw_150)) rfl dL_barsAny_1 ?_
  refine lv_iload_n hx hb dL_barsAny_4 rfl (lv_at hl 1 rfl) ?_
  obtain ⟨q1, h⟩ := h
  refine k_iald hx hb hK hP 18 10 (σ 18) rfl rfl q1 dL_barsAny_5 ?_
  refine lv_iload_n hx hb dL_barsAny_6 rfl (lv_at hl 2 rfl) ?_
  refine ki_and hx hb dL_barsAny_7 ?_
  obtain ⟨q2, h⟩ := h
  obtain ⟨ht, hf⟩ := h
  refine ki_if_eq (tgt := 15) hx hb dL_barsAny_8 (by decide) q2 (fun c1 => ?_) (fun c1 => ?_)
  · have h := ht c1
    refine lv_iconst (v := iI 0) hx hb dL_barsAny_15 rfl ?_
    exact k_zretP hx hb hr hlocks dL_barsAny_16 (by decide) h
  · have h := hf c1
    refine lv_iconst (v := iI 1) hx hb dL_barsAny_11 rfl ?_
    refine lv_goto (tgt := 16) hx hb dL_barsAny_12 (by decide) ?_
    exact k_zretP hx hb hr hlocks dL_barsAny_16 (by decide) h
abbrev rm_L_tellBar : Room := { frames := 1, cells := 0, slots := 0, locals := 22 }
set_option maxHeartbeats 4000000 in
set_option maxRecDepth 100000 in
theorem c_L_tellBar (l : Launch) (dC : Nat → ClassId) (dI : Nat → Nat → Nat) (ad : Nat → Nat) (kc : Nat → ClassId) (nn : Nat → Nat) (σ : kM) (p0 : Int) (p1 : Int) (p2 : Int) {P : Int → kM → Prop} (h : wp_L_tellBar nn σ p0 p1 p2 P) : kMi l y_L_tellBar ws_L_tellBar rm_L_tellBar (dC, dI) vwC (tyC kc) (wC ad kc nn) nsG σ [.ref (ad 5), .int (iI p0), .int (iI p1), .int (iI p2)] P := by
  intro sz
  refine k_enter (cc := b_L_tellBar) (maxL := 5) (ret := (some .boolean)) (by decide) rfl (Nat.le_of_ble_eq_true rfl) ?_
  intro p e s m below meth c ls S hr hlocks hsz hA hW hK hN hl
  generalize va_A ((wC ad kc nn) σ) sz = A at hA hW ⊢
  generalize ([.ref (ad 5), .int (iI p0), .int (iI p1), .int (iI p2)] : List Value).toArray = args at S ⊢
  obtain ⟨hx, hb, hml, hown, hts⟩ := id S
  have hl : lv_has ls 5 [(0, .ref (ad 5)), (1, .int (iI p0)), (2, .int (iI p1)), (3, .int (iI p2))] := hl
  unfold wp_L_tellBar at h
  refine lv_aload_n hx hb dL_tellBar_0 rfl (lv_at hl 0 rfl) ?_
  refine lv_iload_n hx hb dL_tellBar_1 rfl (lv_at hl 1 rfl) ?_
  refine lv_iconst (v := iI 1) hx hb dL_tellBar_2 rfl ?_
  refine lv_iload_n hx hb dL_tellBar_3 rfl (lv_at hl 2 rfl) ?_
  refine ki_shl hx hb dL_tellBar_4 ?_
  obtain ⟨P1, g1, h⟩ := h
  refine kc_vp (As := [.int (iI p0), .int (iI (kShl 1 p1))]) (rest := []) (ci := 5) (q0 := 5) S (c_L_barsAny l dC dI ad kc nn σ p0 (kShl 1 p1) g1) (cwV 2 hts (gV mw_593 mw_594 mw_595 mw_7 k_L_barsAny) rfl rfl rfl (by decide +kernel) ⟨Nat.le_of_ble_eq_true rfl, Nat.le_of_ble_eq_true rfl⟩) hK hN hW.1 rfl rfl rfl hl.1 rfl (Nat.le_of_ble_eq_true rfl) dL_tellBar_5 ⟨Nat.zero_le _, Nat.zero_le _⟩ (fun r1 hp => ?_)
  have h := h r1 hp
  refine lv_iload_n hx hb dL_tellBar_8 rfl (lv_at hl 3 rfl) ?_
  obtain ⟨q1, h⟩ := h
  obtain ⟨q2, h⟩ := h
  have jW1 : ∀ (v1 : Int) (H : Heap) (locs : List Loc) (ls : Array Slot), kW (dC, dI) vwC A s.heap (wC ad kc nn σ) H locs → lv_has ls 5 [(0, .ref (ad 5)), (1, .int (iI p0)), (2, .int (iI p1))] → jn_L_tellBar_17 nn p0 p1 σ P v1 → W p l e (headSpec ws_L_tellBar rm_L_tellBar).room s m args below meth c H locs 0 0 (MQ below (kQi (dC, dI) vwC (wC ad kc nn) P A) args s 0 0 A) (F0 m 17 ls [.int (iI v1)]) := by
    intro v1 H locs ls hW hl h
    unfold jn_L_tellBar_17 at h
    refine lv_istore (lv' := [(4, .int (iI v1)), (0, .ref (ad 5)), (1, .int (iI p0)), (2, .int (iI p1))]) hx hb dL_tellBar_17 hl (by decide) rfl (fun ls hl => ?_)
    refine lv_iload hx hb dL_tellBar_19 (lv_at hl 0 rfl) ?_
    obtain ⟨q3, h⟩ := h
    obtain ⟨ht, hf⟩ := h
    refine ki_if_eq (tgt := 36) hx hb dL_tellBar_21 (by decide) q3 (fun c1 => ?_) (fun c1 => ?_)
    · have h := ht c1
      refine lv_iload hx hb dL_tellBar_36 (lv_at hl 0 rfl) ?_
      exact k_zret hx hb hr hlocks hW dL_tellBar_38 h.1 h.2
    · have h := hf c1
      refine lv_aload_n hx hb dL_tellBar_24 rfl (lv_at hl 1 rfl) ?_
      refine k_get (ci := 5) (C := R_L) (T := T_L) (N := 4) hx hb hts (fun w q => gG_in (inG_L w q)) hown hK hW.1 5 rfl rfl 2 (by decide) (hts _ (gG_in mw_150)) rfl dL_tellBar_25 ?_
      refine lv_iload_n hx hb dL_tellBar_28 rfl (lv_at hl 2 rfl) ?_
      refine lv_dup2_11 hx hb dL_tellBar_29 rfl rfl ?_
      obtain ⟨q4, h⟩ := h
      refine k_iald hx hb hK hW.1 18 10 (σ 18) rfl rfl q4 dL_tellBar_30 ?_
      refine lv_iconst (v := iI 1) hx hb dL_tellBar_31 rfl ?_
      refine lv_iload_n hx hb dL_tellBar_32 rfl (lv_at hl 3 rfl) ?_
      refine ki_shl hx hb dL_tellBar_33 ?_
      refine ki_xor hx hb dL_tellBar_34 ?_
      obtain ⟨q5, h⟩ := h
      obtain ⟨s1, es1⟩ : ∃ z : kM, z = va_up σ 18 (va_up (σ 18) p0.toNat (kXor (σ 18 p0.toNat) (kShl 1 p1))) := ⟨_, rfl⟩
      refine k_iast (ws' := wC ad kc nn s1) hx hb hK hW 18 10 (σ 18) rfl rfl q5 (by rw [es1]; exact wC_a18 ..) dL_tellBar_35 (fun H locs hW => ?_)
      have h := h s1 es1
      refine lv_iload hx hb dL_tellBar_36 (lv_at hl 0 rfl) ?_
      exact k_zret hx hb hr hlocks hW dL_tellBar_38 h.1 h.2
  obtain ⟨ht, hf⟩ := h
  refine ki_icmp_eq (tgt := 16) hx hb dL_tellBar_9 (by decide) q1 q2 (fun c2 => ?_) (fun c2 => ?_)
  · have h := ht c2
    refine lv_iconst (v := iI 0) hx hb dL_tellBar_16 rfl ?_
    exact jW1 0 _ _ ls hW (lv_sub hl [0, 1, 2] rfl) h
  · have h := hf c2
    refine lv_iconst (v := iI 1) hx hb dL_tellBar_12 rfl ?_
    refine lv_goto (tgt := 17) hx hb dL_tellBar_13 (by decide) ?_
    exact jW1 1 _ _ ls hW (lv_sub hl [0, 1, 2] rfl) h
abbrev rm_P_bars : Room := { frames := 6, cells := 0, slots := 0, locals := 82 }
set_option maxHeartbeats 4000000 in
set_option maxRecDepth 100000 in
theorem c_P_bars (l : Launch) (dC : Nat → ClassId) (dI : Nat → Nat → Nat) (ad : Nat → Nat) (kc : Nat → ClassId) (nn : Nat → Nat) (σ : kM) (p0 : Int) (p1 : Int) (p2 : Int) {P : Int → kM → Prop} (h : wp_P_bars nn σ p0 p1 p2 P (fun _ _ => False)) : kMi l y_P_bars ws_P_bars rm_P_bars (dC, dI) vwC (tyC kc) (wC ad kc nn) nsG σ [.ref (ad 0), .int (iI p0), .int (iI p1), .int (iI p2)] P := by
  intro sz
  refine k_enter (cc := b_P_bars) (maxL := 5) (ret := (some .boolean)) (by decide) rfl (Nat.le_of_ble_eq_true rfl) ?_
  intro p e s m below meth c ls S hr hlocks hsz hA hW hK hN hl
  generalize va_A ((wC ad kc nn) σ) sz = A at hA hW ⊢
  generalize ([.ref (ad 0), .int (iI p0), .int (iI p1), .int (iI p2)] : List Value).toArray = args at S ⊢
  obtain ⟨hx, hb, hml, hown, hts⟩ := id S
  have hl : lv_has ls 5 [(0, .ref (ad 0)), (1, .int (iI p0)), (2, .int (iI p1)), (3, .int (iI p2))] := hl
  unfold wp_P_bars at h
  refine lv_aload_n hx hb dP_bars_0 rfl (lv_at hl 0 rfl) ?_
  refine k_get (ci := 0) (C := R_P) (T := T_P) (N := 7) hx hb hts (fun w q => gG_in (inG_P w q)) hown hK hW.1 0 rfl rfl 4 (by decide) (hts _ (gG_in mw_219)) rfl dP_bars_1 ?_
  refine lv_iload_n hx hb dP_bars_4 rfl (lv_at hl 1 rfl) ?_
  obtain ⟨P1, g1, h⟩ := h
  refine kc_vp (As := [.int (iI p0)]) (rest := []) (ci := 5) (q0 := 5) S (c_L_has l dC dI ad kc nn σ p0 g1) (cwV 1 hts (gV mw_583 mw_584 mw_585 mw_7 k_L_has) rfl rfl rfl (by decide +kernel) ⟨Nat.le_of_ble_eq_true rfl, Nat.le_of_ble_eq_true rfl⟩) hK hN hW.1 rfl rfl rfl hl.1 rfl (Nat.le_of_ble_eq_true rfl) dP_bars_5 ⟨Nat.zero_le _, Nat.zero_le _⟩ (fun r1 hp => ?_)
  have h := h r1 hp
  obtain ⟨q1, h⟩ := h
  obtain ⟨ht, hf⟩ := h
  refine ki_if_eq (tgt := 18) hx hb dP_bars_8 (by decide) q1 (fun c1 => ?_) (fun c1 => ?_)
  · have h := ht c1
    exact False.elim h
  · have h := hf c1
    refine lv_iload_n hx hb dP_bars_11 rfl (lv_at hl 2 rfl) ?_
    obtain ⟨P2, g2, h⟩ := h
    refine kc_sp (As := [.int (iI p1)]) (rest := []) S (c_P_isKind l dC dI (tyC kc) (wC ad kc nn) nn σ p1 g2) (cwS 1 hts (gS mw_523 mw_524 mw_1 k_P_isKind) rfl rfl rfl (by decide +kernel) ⟨Nat.le_of_ble_eq_true rfl, Nat.le_of_ble_eq_true rfl⟩) hK hN hW.1 rfl hl.1 rfl (Nat.le_of_ble_eq_true rfl) dP_bars_12 ⟨Nat.zero_le _, Nat.zero_le _⟩ (fun r2 hp => ?_)
    have h := h r2 hp
    obtain ⟨q2, h⟩ := h
    obtain ⟨ht, hf⟩ := h
    refine ki_if_ne (tgt := 28) hx hb dP_bars_15 (by decide) q2 (fun c2 => ?_) (fun c2 => ?_)
    · have h := ht c2
      refine lv_aload_n hx hb dP_bars_28 rfl (lv_at hl 0 rfl) ?_
      refine k_get (ci := 0) (C := R_P) (T := T_P) (N := 7) hx hb hts (fun w q => gG_in (inG_P w q)) hown hK hW.1 0 rfl rfl 4 (by decide) (hts _ (gG_in mw_219)) rfl dP_bars_29 ?_
      refine lv_iload_n hx hb dP_bars_32 rfl (lv_at hl 1 rfl) ?_
      refine lv_iload_n hx hb dP_bars_33 rfl (lv_at hl 2 rfl) ?_
      refine lv_iload_n hx hb dP_bars_34 rfl (lv_at hl 3 rfl) ?_
      obtain ⟨P3, g3, h⟩ := h
      refine kc_vi (As := [.int (iI p0), .int (iI p1), .int (iI p2)]) (rest := []) (ci := 5) (q0 := 5) S (c_L_tellBar l dC dI ad kc nn σ p0 p1 p2 g3) (cwV 3 hts (gV mw_589 mw_590 mw_591 mw_7 k_L_tellBar) rfl rfl rfl (by decide +kernel) ⟨Nat.le_of_ble_eq_true rfl, Nat.le_of_ble_eq_true rfl⟩) hK hN hA hW (fun _ => rfl) rfl rfl rfl hl.1 rfl (Nat.le_of_ble_eq_true rfl) dP_bars_35 ⟨Nat.zero_le _, Nat.zero_le _⟩ (fun r3 s1 H locs hp hW => ?_)
      have h := h r3 s1 hp
      refine lv_istore (lv' := [(4, .int (iI r3)), (0, .ref (ad 0)), (1, .int (iI p0)), (2, .int (iI p1)), (3, .int (iI p2))]) hx hb dP_bars_38 hl (by decide) rfl (fun ls hl => ?_)
      refine lv_iload hx hb dP_bars_40 (lv_at hl 0 rfl) ?_
      obtain ⟨q3, h⟩ := h
      obtain ⟨ht, hf⟩ := h
      refine ki_if_eq (tgt := 52) hx hb dP_bars_42 (by decide) q3 (fun c3 => ?_) (fun c3 => ?_)
      · have h := ht c3
        refine lv_iload hx hb dP_bars_52 (lv_at hl 0 rfl) ?_
        exact k_zret hx hb hr hlocks hW dP_bars_54 h.1 h.2
      · have h := hf c3
        refine lv_aload_n hx hb dP_bars_45 rfl (lv_at hl 1 rfl) ?_
        refine k_get (ci := 0) (C := R_P) (T := T_P) (N := 7) hx hb hts (fun w q => gG_in (inG_P w q)) hown hK hW.1 0 rfl rfl 5 (by decide) (hts _ (gG_in mw_220)) rfl dP_bars_46 ?_
        obtain ⟨P4, g4, h⟩ := h
        refine kc_vv (As := []) (rest := []) (ci := 6) (q0 := 6) S (c_C_forget l dC dI ad kc nn s1 g4) (cwV 0 hts (gV mw_414 mw_415 mw_416 mw_8 k_C_forget) rfl rfl rfl (by decide +kernel) ⟨Nat.le_of_ble_eq_true rfl, Nat.le_of_ble_eq_true rfl⟩) hK hN hA hW (fun _ => rfl) rfl rfl rfl hl.1 rfl (Nat.le_of_ble_eq_true rfl) dP_bars_49 ⟨Nat.zero_le _, Nat.zero_le _⟩ (fun s2 H locs hp hW => ?_)
        have h := h s2 hp
        refine lv_iload hx hb dP_bars_52 (lv_at hl 0 rfl) ?_
        exact k_zret hx hb hr hlocks hW dP_bars_54 h.1 h.2
    · have h := hf c2
      exact False.elim h
abbrev rm_R_length : Room := { frames := 2, cells := 0, slots := 0, locals := 42 }
set_option maxHeartbeats 4000000 in
set_option maxRecDepth 100000 in
theorem c_R_length (l : Launch) (dC : Nat → ClassId) (dI : Nat → Nat → Nat) (ad : Nat → Nat) (kc : Nat → ClassId) (nn : Nat → Nat) (σ : kM) {P : Int → Prop} (h : wp_R_length nn σ P) : kMp l y_R_length ws_R_length rm_R_length (dC, dI) vwC (tyC kc) (wC ad kc nn) nsG σ [.ref (ad 3)] P := by
  refine k_enterP (cc := b_R_length) (maxL := 1) (ret := (some .int)) (by decide) rfl (Nat.le_of_ble_eq_true rfl) ?_
  intro p e s m below meth c ls S hr hlocks hP hK hN hl
  generalize ([.ref (ad 3)] : List Value).toArray = args at S ⊢
  obtain ⟨hx, hb, hml, hown, hts⟩ := id S
  have hl : lv_has ls 1 [(0, .ref (ad 3))] := hl
  unfold wp_R_length at h
  refine lv_aload_n hx hb dR_length_0 rfl (lv_at hl 0 rfl) ?_
  refine lv_aload_n hx hb dR_length_1 rfl (lv_at hl 0 rfl) ?_
  refine k_get (ci := 3) (C := R_R) (T := T_R) (N := 4) hx hb hts (fun w q => gG_in (inG_R w q)) hown hK hP 3 rfl rfl 3 (by decide) (hts _ (gG_in mw_113)) rfl dR_length_2 ?_
  obtain ⟨P1, g1, h⟩ := h
  refine kc_vp (As := [.int (iI (σ 3 3))]) (rest := []) (ci := 3) (q0 := 3) S (c_R_lengthBefore l dC dI ad kc nn σ (σ 3 3) g1) (cwV 1 hts (gV mw_557 mw_510 mw_511 mw_5 k_R_lengthBefore) rfl rfl rfl (by decide +kernel) ⟨Nat.le_of_ble_eq_true rfl, Nat.le_of_ble_eq_true rfl⟩) hK hN hP rfl rfl rfl hl.1 rfl (Nat.le_of_ble_eq_true rfl) dR_length_5 ⟨Nat.zero_le _, Nat.zero_le _⟩ (fun r1 hp => ?_)
  have h := h r1 hp
  exact k_iretP hx hb hr hlocks dR_length_8 h
abbrev rm_F_count : Room := { frames := 0, cells := 0, slots := 0, locals := 0 }
set_option maxHeartbeats 4000000 in
set_option maxRecDepth 100000 in
theorem c_F_count (l : Launch) (dC : Nat → ClassId) (dI : Nat → Nat → Nat) (ad : Nat → Nat) (kc : Nat → ClassId) (nn : Nat → Nat) (σ : kM) {P : Int → Prop} (h : wp_F_count nn σ P) : kMp l y_F_count ws_F_count rm_F_count (dC, dI) vwC (tyC kc) (wC ad kc nn) nsG σ [.ref (ad 4)] P := by
  refine k_enterP (cc := b_F_count) (maxL := 1) (ret := (some .int)) (by decide) rfl (Nat.le_of_ble_eq_true rfl) ?_
  intro p e s m below meth c ls S hr hlocks hP hK hN hl
  generalize ([.ref (ad 4)] : List Value).toArray = args at S ⊢
  obtain ⟨hx, hb, hml, hown, hts⟩ := id S
  have hl : lv_has ls 1 [(0, .ref (ad 4))] := hl
  unfold wp_F_count at h
  refine lv_aload_n hx hb dF_count_0 rfl (lv_at hl 0 rfl) ?_
  refine k_get (ci := 4) (C := R_F) (T := T_F) (N := 4) hx hb hts (fun w q => gG_in (inG_F w q)) hown hK hP 4 rfl rfl 3 (by decide) (hts _ (gG_in mw_132)) rfl dF_count_1 ?_
  exact k_iretP hx hb hr hlocks dF_count_4 h
abbrev rm_F_kindBit : Room := { frames := 0, cells := 0, slots := 0, locals := 0 }
set_option maxHeartbeats 4000000 in
set_option maxRecDepth 100000 in
theorem c_F_kindBit (l : Launch) (dC : Nat → ClassId) (dI : Nat → Nat → Nat) (ad : Nat → Nat) (kc : Nat → ClassId) (nn : Nat → Nat) (σ : kM) (p0 : Int) {P : Int → Prop} (h : wp_F_kindBit nn σ p0 P) : kMp l y_F_kindBit ws_F_kindBit rm_F_kindBit (dC, dI) vwC (tyC kc) (wC ad kc nn) nsG σ [.ref (ad 4), .int (iI p0)] P := by
  refine k_enterP (cc := b_F_kindBit) (maxL := 2) (ret := (some .int)) (by decide) rfl (Nat.le_of_ble_eq_true rfl) ?_
  intro p e s m below meth c ls S hr hlocks hP hK hN hl
  generalize ([.ref (ad 4), .int (iI p0)] : List Value).toArray = args at S ⊢
  obtain ⟨hx, hb, hml, hown, hts⟩ := id S
  have hl : lv_has ls 2 [(0, .ref (ad 4)), (1, .int (iI p0))] := hl
  unfold wp_F_kindBit at h
  refine lv_iconst (v := iI 1) hx hb dF_kindBit_0 rfl ?_
  refine lv_aload_n hx hb dF_kindBit_1 rfl (lv_at hl 0 rfl) ?_
  refine k_get (ci := 4) (C := R_F) (T := T_F) (N := 4) hx hb hts (fun w q => gG_in (inG_F w q)) hown hK hP 4 rfl rfl 2 (by decide) (hts _ (gG_in mw_131)) rfl dF_kindBit_2 ?_
  refine lv_iload_n hx hb dF_kindBit_5 rfl (lv_at hl 1 rfl) ?_
  obtain ⟨q1, h⟩ := h
  refine k_iald hx hb hK hP 15 7 (σ 15) rfl rfl q1 dF_kindBit_6 ?_
  refine ki_shl hx hb dF_kindBit_7 ?_
  exact k_iretP hx hb hr hlocks dF_kindBit_8 h
abbrev rm_C_markFaults : Room := { frames := 4, cells := 0, slots := 0, locals := 87 }
set_option maxHeartbeats 4000000 in
set_option maxRecDepth 100000 in
theorem c_C_markFaults (l : Launch) (dC : Nat → ClassId) (dI : Nat → Nat → Nat) (ad : Nat → Nat) (kc : Nat → ClassId) (nn : Nat → Nat) (σ : kM) (p2 : Int) {P : kM → Prop} (h : wp_C_markFaults nn σ p2 P) : kMv l y_C_markFaults ws_C_markFaults rm_C_markFaults (dC, dI) vwC (tyC kc) (wC ad kc nn) nsG σ [.ref (ad 6), .ref (ad 3), .ref (ad 4), .int (iI p2)] P := by
  intro sz
  refine k_enter (cc := b_C_markFaults) (maxL := 6) (ret := none) (by decide) rfl (Nat.le_of_ble_eq_true rfl) ?_
  intro p e s m below meth c ls S hr hlocks hsz hA hW hK hN hl
  generalize va_A ((wC ad kc nn) σ) sz = A at hA hW ⊢
  generalize ([.ref (ad 6), .ref (ad 3), .ref (ad 4), .int (iI p2)] : List Value).toArray = args at S ⊢
  obtain ⟨hx, hb, hml, hown, hts⟩ := id S
  have hl : lv_has ls 6 [(0, .ref (ad 6)), (1, .ref (ad 3)), (2, .ref (ad 4)), (3, .int (iI p2))] := hl
  unfold wp_C_markFaults at h
  refine lv_iconst (v := iI 0) hx hb dC_markFaults_0 rfl ?_
  refine lv_istore (lv' := [(4, .int (iI 0)), (0, .ref (ad 6)), (1, .ref (ad 3)), (2, .ref (ad 4)), (3, .int (iI p2))]) hx hb dC_markFaults_1 hl (by decide) rfl (fun ls hl => ?_)
  obtain ⟨Pe1, k1, h, hk1⟩ := h
  have xW2 : ∀ (v2 : Int) (s2 : kM) (H : Heap) (locs : List Loc) (ls : Array Slot), kW (dC, dI) vwC A s.heap (wC ad kc nn s2) H locs → lv_has ls 6 [(0, .ref (ad 6)), (1, .ref (ad 3)), (2, .ref (ad 4)), (3, .int (iI p2))] → Pe1 v2 s2 → W p l e (headSpec ws_C_markFaults rm_C_markFaults).room s m args below meth c H locs 0 0 (MQ below (kQv (dC, dI) vwC (wC ad kc nn) P A) args s 0 0 A) (F0 m 26 ls []) := by
    intro v2 s2 H locs ls hW hl h
    have h := hk1 v2 s2 h
    refine lv_iconst (v := iI 0) hx hb dC_markFaults_26 rfl ?_
    refine lv_istore (lv' := [(4, .int (iI 0)), (0, .ref (ad 6)), (1, .ref (ad 3)), (2, .ref (ad 4)), (3, .int (iI p2))]) hx hb dC_markFaults_27 hl (by decide) rfl (fun ls hl => ?_)
    obtain ⟨Pe2, k2, h, hk2⟩ := h
    have xW1 : ∀ (v4 : Int) (s4 : kM) (H : Heap) (locs : List Loc) (ls : Array Slot), kW (dC, dI) vwC A s.heap (wC ad kc nn s4) H locs → lv_has ls 6 [] → Pe2 v4 s4 → W p l e (headSpec ws_C_markFaults rm_C_markFaults).room s m args below meth c H locs 0 0 (MQ below (kQv (dC, dI) vwC (wC ad kc nn) P A) args s 0 0 A) (F0 m 88 ls []) := by
      intro v4 s4 H locs ls hW hl h
      have h := hk2 v4 s4 h
      exact k_vret hx hb hr hlocks hW dC_markFaults_88 h
    have lW1 : ∀ (ki1 : Nat) (v3 : Int) (s3 : kM) (H : Heap) (locs : List Loc) (ls : Array Slot), kW (dC, dI) vwC A s.heap (wC ad kc nn s3) H locs → lv_has ls 6 [(4, .int (iI v3)), (0, .ref (ad 6)), (1, .ref (ad 3)), (2, .ref (ad 4)), (3, .int (iI p2))] → lp_C_markFaults_29 nn p2 Pe2 ki1 v3 s3 → W p l e (headSpec ws_C_markFaults rm_C_markFaults).room s m args below meth c H locs 0 0 (MQ below (kQv (dC, dI) vwC (wC ad kc nn) P A) args s 0 0 A) (F0 m 29 ls []) := by
      intro ki1
      induction ki1 with
      | zero => intro v3 s3 H locs ls hW hl h; exact h.elim
      | succ ki1 ih1 =>
        intro v3 s3 H locs ls hW hl h
        have h : lpB_C_markFaults_29 nn p2 Pe2 (lp_C_markFaults_29 nn p2 Pe2 ki1) v3 s3 := h
        unfold lpB_C_markFaults_29 at h
        refine lv_iload hx hb dC_markFaults_29 (lv_at hl 0 rfl) ?_
        refine lv_aload_n hx hb dC_markFaults_31 rfl (lv_at hl 3 rfl) ?_
        refine kc_vp (As := []) (rest := [.int (iI v3)]) (ci := 4) (q0 := 4) S (c_F_count l dC dI ad kc nn s3 (P := fun r => (s3 4 3) = r) rfl) (cwV 0 hts (gV mw_619 mw_620 mw_621 mw_6 k_F_count) rfl rfl rfl (by decide +kernel) ⟨Nat.le_of_ble_eq_true rfl, Nat.le_of_ble_eq_true rfl⟩) hK hN hW.1 rfl rfl rfl hl.1 rfl (Nat.le_of_ble_eq_true rfl) dC_markFaults_32 ⟨Nat.zero_le _, Nat.zero_le _⟩ (fun r1 hp => ?_)
        subst hp
        obtain ⟨q1, h⟩ := h
        obtain ⟨q2, h⟩ := h
        obtain ⟨ht, hf⟩ := h
        refine ki_icmp_ge (tgt := 88) hx hb dC_markFaults_35 (by decide) q1 q2 (fun c1 => ?_) (fun c1 => ?_)
        · have h := ht c1
          exact xW1 v3 s3 _ _ ls hW (lv_sub hl [] rfl) h
        · have h := hf c1
          refine lv_aload_n hx hb dC_markFaults_38 rfl (lv_at hl 3 rfl) ?_
          refine lv_aload_n hx hb dC_markFaults_39 rfl (lv_at hl 2 rfl) ?_
          refine lv_iload hx hb dC_markFaults_40 (lv_at hl 0 rfl) ?_
          obtain ⟨P1, g1, h⟩ := h
          refine kc_vp (As := [.ref (ad 3), .int (iI v3)]) (rest := []) (ci := 4) (q0 := 4) S (c_F_placeIn l dC dI ad kc nn s3 v3 g1) (cwV 2 hts (gV mw_623 mw_550 mw_551 mw_6 k_F_placeIn) rfl rfl rfl (by decide +kernel) ⟨Nat.le_of_ble_eq_true rfl, Nat.le_of_ble_eq_true rfl⟩) hK hN hW.1 rfl rfl rfl hl.1 rfl (Nat.le_of_ble_eq_true rfl) dC_markFaults_42 ⟨Nat.zero_le _, Nat.zero_le _⟩ (fun r2 hp => ?_)
          have h := h r2 hp
          refine lv_istore (lv' := [(5, .int (iI r2)), (4, .int (iI v3)), (0, .ref (ad 6)), (1, .ref (ad 3)), (2, .ref (ad 4)), (3, .int (iI p2))]) hx hb dC_markFaults_45 hl (by decide) rfl (fun ls hl => ?_)
          refine lv_iload hx hb dC_markFaults_47 (lv_at hl 0 rfl) ?_
          refine lv_iconst (v := iI (-1)) hx hb dC_markFaults_49 rfl ?_
          obtain ⟨q3, h⟩ := h
          obtain ⟨ht, hf⟩ := h
          refine ki_icmp_eq (tgt := 82) hx hb dC_markFaults_50 (by decide) q3 (by constructor <;> decide) (fun c2 => ?_) (fun c2 => ?_)
          · have h := ht c2
            obtain ⟨v5, ev5⟩ : ∃ z : Int, z = v3 + 1 := ⟨_, rfl⟩
            refine lv_iinc (v := iI v5) (lv' := [(4, .int (iI v5)), (5, .int (iI r2)), (0, .ref (ad 6)), (1, .ref (ad 3)), (2, .ref (ad 4)), (3, .int (iI p2))]) hx hb dC_markFaults_82 hl (k := 1) rfl (by rw [ev5, ← iI_add]; rfl) (by decide) rfl (fun ls hl => ?_)
            have h := h v5 ev5
            refine lv_goto (tgt := 29) hx hb dC_markFaults_85 (by decide) ?_
            exact ih1 v5 s3 _ _ ls hW (lv_sub hl [0, 2, 3, 4, 5] rfl) h
          · have h := hf c2
            refine lv_iload hx hb dC_markFaults_53 (lv_at hl 0 rfl) ?_
            refine lv_iload_n hx hb dC_markFaults_55 rfl (lv_at hl 5 rfl) ?_
            obtain ⟨q4, h⟩ := h
            refine ki_div hx hb dC_markFaults_56 q4 ?_
            refine lv_aload_n hx hb dC_markFaults_57 rfl (lv_at hl 2 rfl) ?_
            refine k_get (ci := 6) (C := R_C) (T := T_C) (N := 10) hx hb hts (fun w q => gG_in (inG_C w q)) hown hK hW.1 6 rfl rfl 6 (by decide) (hts _ (gG_in mw_173)) rfl dC_markFaults_58 ?_
            obtain ⟨q5, h⟩ := h
            obtain ⟨q6, h⟩ := h
            obtain ⟨ht, hf⟩ := h
            refine ki_icmp_ge (tgt := 82) hx hb dC_markFaults_61 (by decide) q5 q6 (fun c3 => ?_) (fun c3 => ?_)
            · have h := ht c3
              obtain ⟨v6, ev6⟩ : ∃ z : Int, z = v3 + 1 := ⟨_, rfl⟩
              refine lv_iinc (v := iI v6) (lv' := [(4, .int (iI v6)), (5, .int (iI r2)), (0, .ref (ad 6)), (1, .ref (ad 3)), (2, .ref (ad 4)), (3, .int (iI p2))]) hx hb dC_markFaults_82 hl (k := 1) rfl (by rw [ev6, ← iI_add]; rfl) (by decide) rfl (fun ls hl => ?_)
              have h := h v6 ev6
              refine lv_goto (tgt := 29) hx hb dC_markFaults_85 (by decide) ?_
              exact ih1 v6 s3 _ _ ls hW (lv_sub hl [0, 2, 3, 4, 5] rfl) h
            · have h := hf c3
              refine lv_aload_n hx hb dC_markFaults_64 rfl (lv_at hl 2 rfl) ?_
              refine k_get (ci := 6) (C := R_C) (T := T_C) (N := 10) hx hb hts (fun w q => gG_in (inG_C w q)) hown hK hW.1 6 rfl rfl 0 (by decide) (hts _ (gG_in mw_167)) rfl dC_markFaults_65 ?_
              refine lv_iload hx hb dC_markFaults_68 (lv_at hl 0 rfl) ?_
              refine lv_iload_n hx hb dC_markFaults_70 rfl (lv_at hl 5 rfl) ?_
              obtain ⟨q7, h⟩ := h
              refine ki_div hx hb dC_markFaults_71 q7 ?_
              refine lv_dup2_11 hx hb dC_markFaults_72 rfl rfl ?_
              obtain ⟨q8, h⟩ := h
              refine k_iald hx hb hK hW.1 19 11 (s3 19) rfl rfl q8 dC_markFaults_73 ?_
              refine lv_aload_n hx hb dC_markFaults_74 rfl (lv_at hl 4 rfl) ?_
              refine lv_iload hx hb dC_markFaults_75 (lv_at hl 1 rfl) ?_
              obtain ⟨P2, g2, h⟩ := h
              refine kc_vp (As := [.int (iI v3)]) (rest := [.int (iI (s3 19 (r2 / p2).toNat)), .int (iI (r2 / p2)), .ref (ad 19)]) (ci := 4) (q0 := 4) S (c_F_kindBit l dC dI ad kc nn s3 v3 g2) (cwV 1 hts (gV mw_624 mw_625 mw_626 mw_6 k_F_kindBit) rfl rfl rfl (by decide +kernel) ⟨Nat.le_of_ble_eq_true rfl, Nat.le_of_ble_eq_true rfl⟩) hK hN hW.1 rfl rfl rfl hl.1 rfl (Nat.le_of_ble_eq_true rfl) dC_markFaults_77 ⟨Nat.zero_le _, Nat.zero_le _⟩ (fun r3 hp => ?_)
              have h := h r3 hp
              refine ki_or hx hb dC_markFaults_80 ?_
              obtain ⟨q9, h⟩ := h
              obtain ⟨s5, es5⟩ : ∃ z : kM, z = va_up s3 19 (va_up (s3 19) (r2 / p2).toNat (kOr (s3 19 (r2 / p2).toNat) r3)) := ⟨_, rfl⟩
              refine k_iast (ws' := wC ad kc nn s5) hx hb hK hW 19 11 (s3 19) rfl rfl q9 (by rw [es5]; exact wC_a19 ..) dC_markFaults_81 (fun H locs hW => ?_)
              have h := h s5 es5
              obtain ⟨v7, ev7⟩ : ∃ z : Int, z = v3 + 1 := ⟨_, rfl⟩
              refine lv_iinc (v := iI v7) (lv' := [(4, .int (iI v7)), (5, .int (iI r2)), (0, .ref (ad 6)), (1, .ref (ad 3)), (2, .ref (ad 4)), (3, .int (iI p2))]) hx hb dC_markFaults_82 hl (k := 1) rfl (by rw [ev7, ← iI_add]; rfl) (by decide) rfl (fun ls hl => ?_)
              have h := h v7 ev7
              refine lv_goto (tgt := 29) hx hb dC_markFaults_85 (by decide) ?_
              exact ih1 v7 s5 _ _ ls hW (lv_sub hl [0, 2, 3, 4, 5] rfl) h
    exact lW1 k2 0 s2 _ _ ls hW (lv_sub hl [0, 1, 2, 3, 4] rfl) h
  have lW2 : ∀ (ki2 : Nat) (v1 : Int) (s1 : kM) (H : Heap) (locs : List Loc) (ls : Array Slot), kW (dC, dI) vwC A s.heap (wC ad kc nn s1) H locs → lv_has ls 6 [(4, .int (iI v1)), (0, .ref (ad 6)), (1, .ref (ad 3)), (2, .ref (ad 4)), (3, .int (iI p2))] → lp_C_markFaults_3 nn Pe1 ki2 v1 s1 → W p l e (headSpec ws_C_markFaults rm_C_markFaults).room s m args below meth c H locs 0 0 (MQ below (kQv (dC, dI) vwC (wC ad kc nn) P A) args s 0 0 A) (F0 m 3 ls []) := by
    intro ki2
    induction ki2 with
    | zero => intro v1 s1 H locs ls hW hl h; exact h.elim
    | succ ki2 ih2 =>
      intro v1 s1 H locs ls hW hl h
      have h : lpB_C_markFaults_3 nn Pe1 (lp_C_markFaults_3 nn Pe1 ki2) v1 s1 := h
      unfold lpB_C_markFaults_3 at h
      refine lv_iload hx hb dC_markFaults_3 (lv_at hl 0 rfl) ?_
      refine lv_aload_n hx hb dC_markFaults_5 rfl (lv_at hl 1 rfl) ?_
      refine k_get (ci := 6) (C := R_C) (T := T_C) (N := 10) hx hb hts (fun w q => gG_in (inG_C w q)) hown hK hW.1 6 rfl rfl 6 (by decide) (hts _ (gG_in mw_173)) rfl dC_markFaults_6 ?_
      obtain ⟨q10, h⟩ := h
      obtain ⟨q11, h⟩ := h
      obtain ⟨ht, hf⟩ := h
      refine ki_icmp_ge (tgt := 26) hx hb dC_markFaults_9 (by decide) q10 q11 (fun c4 => ?_) (fun c4 => ?_)
      · have h := ht c4
        exact xW2 v1 s1 _ _ ls hW (lv_sub hl [1, 2, 3, 4] rfl) h
      · have h := hf c4
        refine lv_aload_n hx hb dC_markFaults_12 rfl (lv_at hl 1 rfl) ?_
        refine k_get (ci := 6) (C := R_C) (T := T_C) (N := 10) hx hb hts (fun w q => gG_in (inG_C w q)) hown hK hW.1 6 rfl rfl 0 (by decide) (hts _ (gG_in mw_167)) rfl dC_markFaults_13 ?_
        refine lv_iload hx hb dC_markFaults_16 (lv_at hl 0 rfl) ?_
        refine lv_iconst (v := iI 0) hx hb dC_markFaults_18 rfl ?_
        obtain ⟨q12, h⟩ := h
        obtain ⟨s6, es6⟩ : ∃ z : kM, z = va_up s1 19 (va_up (s1 19) v1.toNat 0) := ⟨_, rfl⟩
        refine k_iast (ws' := wC ad kc nn s6) hx hb hK hW 19 11 (s1 19) rfl rfl q12 (by rw [es6]; exact wC_a19 ..) dC_markFaults_19 (fun H locs hW => ?_)
        have h := h s6 es6
        obtain ⟨v8, ev8⟩ : ∃ z : Int, z = v1 + 1 := ⟨_, rfl⟩
        refine lv_iinc (v := iI v8) (lv' := [(4, .int (iI v8)), (0, .ref (ad 6)), (1, .ref (ad 3)), (2, .ref (ad 4)), (3, .int (iI p2))]) hx hb dC_markFaults_20 hl (k := 0) rfl (by rw [ev8, ← iI_add]; rfl) (by decide) rfl (fun ls hl => ?_)
        have h := h v8 ev8
        refine lv_goto (tgt := 3) hx hb dC_markFaults_23 (by decide) ?_
        exact ih2 v8 s6 _ _ ls hW (lv_sub hl [0, 1, 2, 3, 4] rfl) h
  exact lW2 k1 0 σ _ _ ls hW (lv_sub hl [0, 1, 2, 3, 4] rfl) h
abbrev rm_L_count : Room := { frames := 0, cells := 0, slots := 0, locals := 0 }
set_option maxHeartbeats 4000000 in
set_option maxRecDepth 100000 in
theorem c_L_count (l : Launch) (dC : Nat → ClassId) (dI : Nat → Nat → Nat) (ad : Nat → Nat) (kc : Nat → ClassId) (nn : Nat → Nat) (σ : kM) {P : Int → Prop} (h : wp_L_count nn σ P) : kMp l y_L_count ws_L_count rm_L_count (dC, dI) vwC (tyC kc) (wC ad kc nn) nsG σ [.ref (ad 5)] P := by
  refine k_enterP (cc := b_L_count) (maxL := 1) (ret := (some .int)) (by decide) rfl (Nat.le_of_ble_eq_true rfl) ?_
  intro p e s m below meth c ls S hr hlocks hP hK hN hl
  generalize ([.ref (ad 5)] : List Value).toArray = args at S ⊢
  obtain ⟨hx, hb, hml, hown, hts⟩ := id S
  have hl : lv_has ls 1 [(0, .ref (ad 5))] := hl
  unfold wp_L_count at h
  refine lv_aload_n hx hb dL_count_0 rfl (lv_at hl 0 rfl) ?_
  refine k_get (ci := 5) (C := R_L) (T := T_L) (N := 4) hx hb hts (fun w q => gG_in (inG_L w q)) hown hK hP 5 rfl rfl 3 (by decide) (hts _ (gG_in mw_151)) rfl dL_count_1 ?_
  exact k_iretP hx hb hr hlocks dL_count_4 h
abbrev rm_L_width : Room := { frames := 0, cells := 0, slots := 0, locals := 0 }
set_option maxHeartbeats 4000000 in
set_option maxRecDepth 100000 in
theorem c_L_width (l : Launch) (dC : Nat → ClassId) (dI : Nat → Nat → Nat) (ad : Nat → Nat) (kc : Nat → ClassId) (nn : Nat → Nat) (σ : kM) (p0 : Int) {P : Int → Prop} (h : wp_L_width nn σ p0 P) : kMp l y_L_width ws_L_width rm_L_width (dC, dI) vwC (tyC kc) (wC ad kc nn) nsG σ [.ref (ad 5), .int (iI p0)] P := by
  refine k_enterP (cc := b_L_width) (maxL := 2) (ret := (some .int)) (by decide) rfl (Nat.le_of_ble_eq_true rfl) ?_
  intro p e s m below meth c ls S hr hlocks hP hK hN hl
  generalize ([.ref (ad 5), .int (iI p0)] : List Value).toArray = args at S ⊢
  obtain ⟨hx, hb, hml, hown, hts⟩ := id S
  have hl : lv_has ls 2 [(0, .ref (ad 5)), (1, .int (iI p0))] := hl
  unfold wp_L_width at h
  refine lv_aload_n hx hb dL_width_0 rfl (lv_at hl 0 rfl) ?_
  refine k_get (ci := 5) (C := R_L) (T := T_L) (N := 4) hx hb hts (fun w q => gG_in (inG_L w q)) hown hK hP 5 rfl rfl 0 (by decide) (hts _ (gG_in mw_148)) rfl dL_width_1 ?_
  refine lv_iload_n hx hb dL_width_4 rfl (lv_at hl 1 rfl) ?_
  obtain ⟨q1, h⟩ := h
  refine k_iald hx hb hK hP 16 8 (σ 16) rfl rfl q1 dL_width_5 ?_
  exact k_iretP hx hb hr hlocks dL_width_6 h
abbrev rm_L_worth : Room := { frames := 0, cells := 0, slots := 0, locals := 0 }
set_option maxHeartbeats 4000000 in
set_option maxRecDepth 100000 in
theorem c_L_worth (l : Launch) (dC : Nat → ClassId) (dI : Nat → Nat → Nat) (ad : Nat → Nat) (kc : Nat → ClassId) (nn : Nat → Nat) (σ : kM) (p0 : Int) {P : Int → Prop} (h : wp_L_worth nn σ p0 P) : kMp l y_L_worth ws_L_worth rm_L_worth (dC, dI) vwC (tyC kc) (wC ad kc nn) nsG σ [.ref (ad 5), .int (iI p0)] P := by
  refine k_enterP (cc := b_L_worth) (maxL := 2) (ret := (some .int)) (by decide) rfl (Nat.le_of_ble_eq_true rfl) ?_
  intro p e s m below meth c ls S hr hlocks hP hK hN hl
  generalize ([.ref (ad 5), .int (iI p0)] : List Value).toArray = args at S ⊢
  obtain ⟨hx, hb, hml, hown, hts⟩ := id S
  have hl : lv_has ls 2 [(0, .ref (ad 5)), (1, .int (iI p0))] := hl
  unfold wp_L_worth at h
  refine lv_aload_n hx hb dL_worth_0 rfl (lv_at hl 0 rfl) ?_
  refine k_get (ci := 5) (C := R_L) (T := T_L) (N := 4) hx hb hts (fun w q => gG_in (inG_L w q)) hown hK hP 5 rfl rfl 1 (by decide) (hts _ (gG_in mw_149)) rfl dL_worth_1 ?_
  refine lv_iload_n hx hb dL_worth_4 rfl (lv_at hl 1 rfl) ?_
  obtain ⟨q1, h⟩ := h
  refine k_iald hx hb hK hP 17 9 (σ 17) rfl rfl q1 dL_worth_5 ?_
  exact k_iretP hx hb hr hlocks dL_worth_6 h
abbrev rm_C_tryLeaf : Room := { frames := 0, cells := 0, slots := 0, locals := 0 }
set_option maxHeartbeats 4000000 in
set_option maxRecDepth 100000 in
theorem c_C_tryLeaf (l : Launch) (dC : Nat → ClassId) (dI : Nat → Nat → Nat) (ad : Nat → Nat) (kc : Nat → ClassId) (nn : Nat → Nat) (σ : kM) (p0 : Int) (p1 : Int) (p2 : Int) {P : kM → Prop} (h : wp_C_tryLeaf nn σ p0 p1 p2 P) : kMv l y_C_tryLeaf ws_C_tryLeaf rm_C_tryLeaf (dC, dI) vwC (tyC kc) (wC ad kc nn) nsG σ [.ref (ad 6), .int (iI p0), .int (iI p1), .long (lI p2)] P := by
  intro sz
  refine k_enter (cc := b_C_tryLeaf) (maxL := 5) (ret := none) (by decide) rfl (Nat.le_of_ble_eq_true rfl) ?_
  intro p e s m below meth c ls S hr hlocks hsz hA hW hK hN hl
  generalize va_A ((wC ad kc nn) σ) sz = A at hA hW ⊢
  generalize ([.ref (ad 6), .int (iI p0), .int (iI p1), .long (lI p2)] : List Value).toArray = args at S ⊢
  obtain ⟨hx, hb, hml, hown, hts⟩ := id S
  have hl : lv_has ls 5 [(0, .ref (ad 6)), (1, .int (iI p0)), (2, .int (iI p1)), (3, .long (lI p2))] := hl
  unfold wp_C_tryLeaf at h
  refine lv_lload_n hx hb dC_tryLeaf_0 rfl (lv_at hl 3 rfl) ?_
  refine lv_aload_n hx hb dC_tryLeaf_1 rfl (lv_at hl 0 rfl) ?_
  refine k_get (ci := 6) (C := R_C) (T := T_C) (N := 10) hx hb hts (fun w q => gG_in (inG_C w q)) hown hK hW.1 6 rfl rfl 1 (by decide) (hts _ (gG_in mw_168)) rfl dC_tryLeaf_2 ?_
  refine lv_iload_n hx hb dC_tryLeaf_5 rfl (lv_at hl 1 rfl) ?_
  obtain ⟨q1, h⟩ := h
  refine k_lald hx hb hK hW.1 20 12 (σ 20) rfl rfl q1 dC_tryLeaf_6 ?_
  obtain ⟨q2, h⟩ := h
  refine kl_cmp hx hb q2.1 q2.2 dC_tryLeaf_7 ?_
  obtain ⟨ht, hf⟩ := h
  refine ki_if_lt (tgt := 25) hx hb dC_tryLeaf_8 (by decide) (by constructor <;> (repeat' split) <;> decide) (fun c1 => ?_) (fun c1 => ?_)
  · have h := ht c1
    exact k_vret hx hb hr hlocks hW dC_tryLeaf_25 h
  · have h := hf c1
    refine lv_aload_n hx hb dC_tryLeaf_11 rfl (lv_at hl 0 rfl) ?_
    refine k_get (ci := 6) (C := R_C) (T := T_C) (N := 10) hx hb hts (fun w q => gG_in (inG_C w q)) hown hK hW.1 6 rfl rfl 1 (by decide) (hts _ (gG_in mw_168)) rfl dC_tryLeaf_12 ?_
    refine lv_iload_n hx hb dC_tryLeaf_15 rfl (lv_at hl 1 rfl) ?_
    refine lv_lload_n hx hb dC_tryLeaf_16 rfl (lv_at hl 3 rfl) ?_
    obtain ⟨q3, h⟩ := h
    obtain ⟨s1, es1⟩ : ∃ z : kM, z = va_up σ 20 (va_up (σ 20) p0.toNat p2) := ⟨_, rfl⟩
    refine k_last (ws' := wC ad kc nn s1) hx hb hK hW 20 12 (σ 20) rfl rfl q3 (by rw [es1]; exact wC_a20 ..) dC_tryLeaf_17 (fun H locs hW => ?_)
    have h := h s1 es1
    refine lv_aload_n hx hb dC_tryLeaf_18 rfl (lv_at hl 0 rfl) ?_
    refine k_get (ci := 6) (C := R_C) (T := T_C) (N := 10) hx hb hts (fun w q => gG_in (inG_C w q)) hown hK hW.1 6 rfl rfl 2 (by decide) (hts _ (gG_in mw_169)) rfl dC_tryLeaf_19 ?_
    refine lv_iload_n hx hb dC_tryLeaf_22 rfl (lv_at hl 1 rfl) ?_
    refine lv_iload_n hx hb dC_tryLeaf_23 rfl (lv_at hl 2 rfl) ?_
    obtain ⟨q4, h⟩ := h
    obtain ⟨s2, es2⟩ : ∃ z : kM, z = va_up s1 21 (va_up (s1 21) p0.toNat p1) := ⟨_, rfl⟩
    refine k_iast (ws' := wC ad kc nn s2) hx hb hK hW 21 13 (s1 21) rfl rfl q4 (by rw [es2]; exact wC_a21 ..) dC_tryLeaf_24 (fun H locs hW => ?_)
    have h := h s2 es2
    exact k_vret hx hb hr hlocks hW dC_tryLeaf_25 h
abbrev rm_C_chooseAt : Room := { frames := 1, cells := 0, slots := 0, locals := 24 }
set_option maxHeartbeats 4000000 in
set_option maxRecDepth 100000 in
theorem c_C_chooseAt (l : Launch) (dC : Nat → ClassId) (dI : Nat → Nat → Nat) (ad : Nat → Nat) (kc : Nat → ClassId) (nn : Nat → Nat) (σ : kM) (p0 : Int) {P : kM → Prop} (h : wp_C_chooseAt nn σ p0 P) : kMv l y_C_chooseAt ws_C_chooseAt rm_C_chooseAt (dC, dI) vwC (tyC kc) (wC ad kc nn) nsG σ [.ref (ad 6), .int (iI p0), .ref (ad 5)] P := by
  intro sz
  refine k_enter (cc := b_C_chooseAt) (maxL := 5) (ret := none) (by decide) rfl (Nat.le_of_ble_eq_true rfl) ?_
  intro p e s m below meth c ls S hr hlocks hsz hA hW hK hN hl
  generalize va_A ((wC ad kc nn) σ) sz = A at hA hW ⊢
  generalize ([.ref (ad 6), .int (iI p0), .ref (ad 5)] : List Value).toArray = args at S ⊢
  obtain ⟨hx, hb, hml, hown, hts⟩ := id S
  have hl : lv_has ls 5 [(0, .ref (ad 6)), (1, .int (iI p0)), (2, .ref (ad 5))] := hl
  unfold wp_C_chooseAt at h
  refine lv_aload_n hx hb dC_chooseAt_0 rfl (lv_at hl 0 rfl) ?_
  refine k_get (ci := 6) (C := R_C) (T := T_C) (N := 10) hx hb hts (fun w q => gG_in (inG_C w q)) hown hK hW.1 6 rfl rfl 1 (by decide) (hts _ (gG_in mw_168)) rfl dC_chooseAt_1 ?_
  refine lv_iload_n hx hb dC_chooseAt_4 rfl (lv_at hl 1 rfl) ?_
  refine lv_aload_n hx hb dC_chooseAt_5 rfl (lv_at hl 0 rfl) ?_
  refine k_get (ci := 6) (C := R_C) (T := T_C) (N := 10) hx hb hts (fun w q => gG_in (inG_C w q)) hown hK hW.1 6 rfl rfl 1 (by decide) (hts _ (gG_in mw_168)) rfl dC_chooseAt_6 ?_
  refine lv_iload_n hx hb dC_chooseAt_9 rfl (lv_at hl 1 rfl) ?_
  refine lv_iconst (v := iI 1) hx hb dC_chooseAt_10 rfl ?_
  refine ki_add hx hb dC_chooseAt_11 ?_
  obtain ⟨q1, h⟩ := h
  refine k_lald hx hb hK hW.1 20 12 (σ 20) rfl rfl q1 dC_chooseAt_12 ?_
  refine lv_lconst (v := lI 1) hx hb dC_chooseAt_13 (by decide) ?_
  refine kl_sub hx hb dC_chooseAt_14 ?_
  obtain ⟨q2, h⟩ := h
  obtain ⟨s1, es1⟩ : ∃ z : kM, z = va_up σ 20 (va_up (σ 20) p0.toNat ((σ 20 (p0 + 1).toNat) - 1)) := ⟨_, rfl⟩
  refine k_last (ws' := wC ad kc nn s1) hx hb hK hW 20 12 (σ 20) rfl rfl q2 (by rw [es1]; exact wC_a20 ..) dC_chooseAt_15 (fun H locs hW => ?_)
  have h := h s1 es1
  refine lv_aload_n hx hb dC_chooseAt_16 rfl (lv_at hl 0 rfl) ?_
  refine k_get (ci := 6) (C := R_C) (T := T_C) (N := 10) hx hb hts (fun w q => gG_in (inG_C w q)) hown hK hW.1 6 rfl rfl 2 (by decide) (hts _ (gG_in mw_169)) rfl dC_chooseAt_17 ?_
  refine lv_iload_n hx hb dC_chooseAt_20 rfl (lv_at hl 1 rfl) ?_
  refine lv_iconst (v := iI (-1)) hx hb dC_chooseAt_21 rfl ?_
  obtain ⟨q3, h⟩ := h
  obtain ⟨s2, es2⟩ : ∃ z : kM, z = va_up s1 21 (va_up (s1 21) p0.toNat (-1)) := ⟨_, rfl⟩
  refine k_iast (ws' := wC ad kc nn s2) hx hb hK hW 21 13 (s1 21) rfl rfl q3 (by rw [es2]; exact wC_a21 ..) dC_chooseAt_22 (fun H locs hW => ?_)
  have h := h s2 es2
  refine lv_aload_n hx hb dC_chooseAt_23 rfl (lv_at hl 2 rfl) ?_
  refine kc_vp (As := []) (rest := []) (ci := 5) (q0 := 5) S (c_L_count l dC dI ad kc nn s2 (P := fun r => (s2 5 3) = r) rfl) (cwV 0 hts (gV mw_632 mw_633 mw_634 mw_7 k_L_count) rfl rfl rfl (by decide +kernel) ⟨Nat.le_of_ble_eq_true rfl, Nat.le_of_ble_eq_true rfl⟩) hK hN hW.1 rfl rfl rfl hl.1 rfl (Nat.le_of_ble_eq_true rfl) dC_chooseAt_24 ⟨Nat.zero_le _, Nat.zero_le _⟩ (fun r1 hp => ?_)
  subst hp
  refine lv_iconst (v := iI 1) hx hb dC_chooseAt_27 rfl ?_
  refine ki_sub hx hb dC_chooseAt_28 ?_
  refine ki_nm (fun v1 ev1 => ?_)
  have h := h v1 ev1
  refine lv_istore_n (lv' := [(3, .int (iI v1)), (0, .ref (ad 6)), (1, .int (iI p0)), (2, .ref (ad 5))]) hx hb dC_chooseAt_29 rfl hl (by decide) rfl (fun ls hl => ?_)
  obtain ⟨Pe1, k1, h, hk1⟩ := h
  have xW1 : ∀ (v3 : Int) (s4 : kM) (H : Heap) (locs : List Loc) (ls : Array Slot), kW (dC, dI) vwC A s.heap (wC ad kc nn s4) H locs → lv_has ls 5 [] → Pe1 v3 s4 → W p l e (headSpec ws_C_chooseAt rm_C_chooseAt).room s m args below meth c H locs 0 0 (MQ below (kQv (dC, dI) vwC (wC ad kc nn) P A) args s 0 0 A) (F0 m 105 ls []) := by
    intro v3 s4 H locs ls hW hl h
    have h := hk1 v3 s4 h
    exact k_vret hx hb hr hlocks hW dC_chooseAt_105 h
  have lW1 : ∀ (ki1 : Nat) (v2 : Int) (s3 : kM) (H : Heap) (locs : List Loc) (ls : Array Slot), kW (dC, dI) vwC A s.heap (wC ad kc nn s3) H locs → lv_has ls 5 [(3, .int (iI v2)), (0, .ref (ad 6)), (1, .int (iI p0)), (2, .ref (ad 5))] → lp_C_chooseAt_30 nn p0 Pe1 ki1 v2 s3 → W p l e (headSpec ws_C_chooseAt rm_C_chooseAt).room s m args below meth c H locs 0 0 (MQ below (kQv (dC, dI) vwC (wC ad kc nn) P A) args s 0 0 A) (F0 m 30 ls []) := by
    intro ki1
    induction ki1 with
    | zero => intro v2 s3 H locs ls hW hl h; exact h.elim
    | succ ki1 ih1 =>
      intro v2 s3 H locs ls hW hl h
      have h : lpB_C_chooseAt_30 nn p0 Pe1 (lp_C_chooseAt_30 nn p0 Pe1 ki1) v2 s3 := h
      unfold lpB_C_chooseAt_30 at h
      refine lv_iload_n hx hb dC_chooseAt_30 rfl (lv_at hl 0 rfl) ?_
      obtain ⟨q4, h⟩ := h
      obtain ⟨ht, hf⟩ := h
      refine ki_if_lt (tgt := 105) hx hb dC_chooseAt_31 (by decide) q4 (fun c1 => ?_) (fun c1 => ?_)
      · have h := ht c1
        exact xW1 v2 s3 _ _ ls hW (lv_sub hl [] rfl) h
      · have h := hf c1
        refine lv_aload_n hx hb dC_chooseAt_34 rfl (lv_at hl 3 rfl) ?_
        refine lv_iload_n hx hb dC_chooseAt_35 rfl (lv_at hl 0 rfl) ?_
        refine lv_aload_n hx hb dC_chooseAt_36 rfl (lv_at hl 1 rfl) ?_
        refine k_get (ci := 6) (C := R_C) (T := T_C) (N := 10) hx hb hts (fun w q => gG_in (inG_C w q)) hown hK hW.1 6 rfl rfl 0 (by decide) (hts _ (gG_in mw_167)) rfl dC_chooseAt_37 ?_
        refine lv_iload_n hx hb dC_chooseAt_40 rfl (lv_at hl 2 rfl) ?_
        obtain ⟨q5, h⟩ := h
        refine k_iald hx hb hK hW.1 19 11 (s3 19) rfl rfl q5 dC_chooseAt_41 ?_
        obtain ⟨P1, g1, h⟩ := h
        refine kc_vp (As := [.int (iI v2), .int (iI (s3 19 p0.toNat))]) (rest := []) (ci := 5) (q0 := 5) S (c_L_barsAny l dC dI ad kc nn s3 v2 (s3 19 p0.toNat) g1) (cwV 2 hts (gV mw_640 mw_594 mw_595 mw_7 k_L_barsAny) rfl rfl rfl (by decide +kernel) ⟨Nat.le_of_ble_eq_true rfl, Nat.le_of_ble_eq_true rfl⟩) hK hN hW.1 rfl rfl rfl hl.1 rfl (Nat.le_of_ble_eq_true rfl) dC_chooseAt_42 ⟨Nat.zero_le _, Nat.zero_le _⟩ (fun r2 hp => ?_)
        have h := h r2 hp
        obtain ⟨q6, h⟩ := h
        have jW1 : ∀ (s5 : kM) (H : Heap) (locs : List Loc) (ls : Array Slot), kW (dC, dI) vwC A s.heap (wC ad kc nn s5) H locs → lv_has ls 5 [(3, .int (iI v2)), (0, .ref (ad 6)), (1, .int (iI p0)), (2, .ref (ad 5))] → jn_C_chooseAt_55 nn p0 v2 (lp_C_chooseAt_30 nn p0 Pe1 ki1) s5 → W p l e (headSpec ws_C_chooseAt rm_C_chooseAt).room s m args below meth c H locs 0 0 (MQ below (kQv (dC, dI) vwC (wC ad kc nn) P A) args s 0 0 A) (F0 m 55 ls []) := by
          intro s5 H locs ls hW hl h
          unfold jn_C_chooseAt_55 at h
          refine lv_iload_n hx hb dC_chooseAt_55 rfl (lv_at hl 2 rfl) ?_
          refine lv_aload_n hx hb dC_chooseAt_56 rfl (lv_at hl 3 rfl) ?_
          refine lv_iload_n hx hb dC_chooseAt_57 rfl (lv_at hl 0 rfl) ?_
          obtain ⟨P2, g2, h⟩ := h
          refine kc_vp (As := [.int (iI v2)]) (rest := [.int (iI p0)]) (ci := 5) (q0 := 5) S (c_L_width l dC dI ad kc nn s5 v2 g2) (cwV 1 hts (gV mw_641 mw_642 mw_643 mw_7 k_L_width) rfl rfl rfl (by decide +kernel) ⟨Nat.le_of_ble_eq_true rfl, Nat.le_of_ble_eq_true rfl⟩) hK hN hW.1 rfl rfl rfl hl.1 rfl (Nat.le_of_ble_eq_true rfl) dC_chooseAt_58 ⟨Nat.zero_le _, Nat.zero_le _⟩ (fun r3 hp => ?_)
          have h := h r3 hp
          refine ki_add hx hb dC_chooseAt_61 ?_
          refine ki_nm (fun v4 ev4 => ?_)
          have h := h v4 ev4
          refine lv_istore (lv' := [(4, .int (iI v4)), (3, .int (iI v2)), (0, .ref (ad 6)), (1, .int (iI p0)), (2, .ref (ad 5))]) hx hb dC_chooseAt_62 hl (by decide) rfl (fun ls hl => ?_)
          refine lv_iload hx hb dC_chooseAt_64 (lv_at hl 0 rfl) ?_
          refine lv_aload_n hx hb dC_chooseAt_66 rfl (lv_at hl 2 rfl) ?_
          refine k_get (ci := 6) (C := R_C) (T := T_C) (N := 10) hx hb hts (fun w q => gG_in (inG_C w q)) hown hK hW.1 6 rfl rfl 4 (by decide) (hts _ (gG_in mw_171)) rfl dC_chooseAt_67 ?_
          refine lv_iload_n hx hb dC_chooseAt_70 rfl (lv_at hl 1 rfl) ?_
          obtain ⟨q7, h⟩ := h
          refine k_iald hx hb hK hW.1 23 15 (s5 23) rfl rfl q7 dC_chooseAt_71 ?_
          obtain ⟨q8, h⟩ := h
          obtain ⟨q9, h⟩ := h
          obtain ⟨ht, hf⟩ := h
          refine ki_icmp_gt (tgt := 99) hx hb dC_chooseAt_72 (by decide) q8 q9 (fun c2 => ?_) (fun c2 => ?_)
          · have h := ht c2
            obtain ⟨v5, ev5⟩ : ∃ z : Int, z = v2 + (-1) := ⟨_, rfl⟩
            refine lv_iinc (v := iI v5) (lv' := [(3, .int (iI v5)), (4, .int (iI v4)), (0, .ref (ad 6)), (1, .int (iI p0)), (2, .ref (ad 5))]) hx hb dC_chooseAt_99 hl (k := 1) rfl (by rw [ev5, ← iI_add]; rfl) (by decide) rfl (fun ls hl => ?_)
            have h := h v5 ev5
            refine lv_goto (tgt := 30) hx hb dC_chooseAt_102 (by decide) ?_
            exact ih1 v5 s5 _ _ ls hW (lv_sub hl [0, 2, 3, 4] rfl) h
          · have h := hf c2
            refine lv_aload_n hx hb dC_chooseAt_75 rfl (lv_at hl 2 rfl) ?_
            refine lv_iload_n hx hb dC_chooseAt_76 rfl (lv_at hl 3 rfl) ?_
            refine lv_iload_n hx hb dC_chooseAt_77 rfl (lv_at hl 1 rfl) ?_
            refine lv_aload_n hx hb dC_chooseAt_78 rfl (lv_at hl 4 rfl) ?_
            refine lv_iload_n hx hb dC_chooseAt_79 rfl (lv_at hl 1 rfl) ?_
            obtain ⟨P3, g3, h⟩ := h
            refine kc_vp (As := [.int (iI v2)]) (rest := [.int (iI v2), .int (iI p0), .ref (ad 6)]) (ci := 5) (q0 := 5) S (c_L_worth l dC dI ad kc nn s5 v2 g3) (cwV 1 hts (gV mw_645 mw_646 mw_647 mw_7 k_L_worth) rfl rfl rfl (by decide +kernel) ⟨Nat.le_of_ble_eq_true rfl, Nat.le_of_ble_eq_true rfl⟩) hK hN hW.1 rfl rfl rfl hl.1 rfl (Nat.le_of_ble_eq_true rfl) dC_chooseAt_80 ⟨Nat.zero_le _, Nat.zero_le _⟩ (fun r4 hp => ?_)
            have h := h r4 hp
            obtain ⟨q10, h⟩ := h
            refine ki_i2l hx hb dC_chooseAt_83 q10 ?_
            refine lv_ldc2 (v := lI 2001) hx hb hown (hts _ (gG_in mc_649)) dC_chooseAt_84 ?_
            refine kl_mul hx hb dC_chooseAt_87 ?_
            refine lv_aload_n hx hb dC_chooseAt_88 rfl (lv_at hl 2 rfl) ?_
            refine k_get (ci := 6) (C := R_C) (T := T_C) (N := 10) hx hb hts (fun w q => gG_in (inG_C w q)) hown hK hW.1 6 rfl rfl 1 (by decide) (hts _ (gG_in mw_168)) rfl dC_chooseAt_89 ?_
            refine lv_iload hx hb dC_chooseAt_92 (lv_at hl 0 rfl) ?_
            obtain ⟨q11, h⟩ := h
            refine k_lald hx hb hK hW.1 20 12 (s5 20) rfl rfl q11 dC_chooseAt_94 ?_
            refine kl_add hx hb dC_chooseAt_95 ?_
            obtain ⟨P4, g4, h⟩ := h
            refine kc_vv (As := [.int (iI p0), .int (iI v2), .long (lI ((r4 * 2001) + (s5 20 v4.toNat)))]) (rest := []) (ci := 6) (q0 := 6) S (c_C_tryLeaf l dC dI ad kc nn s5 p0 v2 ((r4 * 2001) + (s5 20 v4.toNat)) g4) (cwV 3 hts (gV mw_650 mw_652 ps_15 mw_8 k_C_tryLeaf) rfl rfl rfl (by decide +kernel) ⟨Nat.le_of_ble_eq_true rfl, Nat.le_of_ble_eq_true rfl⟩) hK hN hA hW (fun _ => rfl) rfl rfl rfl hl.1 rfl (Nat.le_of_ble_eq_true rfl) dC_chooseAt_96 ⟨Nat.zero_le _, Nat.zero_le _⟩ (fun s6 H locs hp hW => ?_)
            have h := h s6 hp
            obtain ⟨v6, ev6⟩ : ∃ z : Int, z = v2 + (-1) := ⟨_, rfl⟩
            refine lv_iinc (v := iI v6) (lv' := [(3, .int (iI v6)), (4, .int (iI v4)), (0, .ref (ad 6)), (1, .int (iI p0)), (2, .ref (ad 5))]) hx hb dC_chooseAt_99 hl (k := 1) rfl (by rw [ev6, ← iI_add]; rfl) (by decide) rfl (fun ls hl => ?_)
            have h := h v6 ev6
            refine lv_goto (tgt := 30) hx hb dC_chooseAt_102 (by decide) ?_
            exact ih1 v6 s6 _ _ ls hW (lv_sub hl [0, 2, 3, 4] rfl) h
        obtain ⟨ht, hf⟩ := h
        refine ki_if_eq (tgt := 55) hx hb dC_chooseAt_45 (by decide) q6 (fun c3 => ?_) (fun c3 => ?_)
        · have h := ht c3
          exact jW1 s3 _ _ ls hW (lv_sub hl [0, 1, 2, 3] rfl) h
        · have h := hf c3
          refine lv_aload_n hx hb dC_chooseAt_48 rfl (lv_at hl 1 rfl) ?_
          refine k_get (ci := 6) (C := R_C) (T := T_C) (N := 10) hx hb hts (fun w q => gG_in (inG_C w q)) hown hK hW.1 6 rfl rfl 4 (by decide) (hts _ (gG_in mw_171)) rfl dC_chooseAt_49 ?_
          refine lv_iload_n hx hb dC_chooseAt_52 rfl (lv_at hl 0 rfl) ?_
          refine lv_iload_n hx hb dC_chooseAt_53 rfl (lv_at hl 2 rfl) ?_
          obtain ⟨q12, h⟩ := h
          obtain ⟨s7, es7⟩ : ∃ z : kM, z = va_up s3 23 (va_up (s3 23) v2.toNat p0) := ⟨_, rfl⟩
          refine k_iast (ws' := wC ad kc nn s7) hx hb hK hW 23 15 (s3 23) rfl rfl q12 (by rw [es7]; exact wC_a23 ..) dC_chooseAt_54 (fun H locs hW => ?_)
          have h := h s7 es7
          exact jW1 s7 _ _ ls hW (lv_sub hl [0, 1, 2, 3] rfl) h
  exact lW1 k1 v1 s2 _ _ ls hW (lv_sub hl [0, 1, 2, 3] rfl) h
abbrev rm_C_chooseFromTheEnd : Room := { frames := 2, cells := 0, slots := 0, locals := 48 }
set_option maxHeartbeats 4000000 in
set_option maxRecDepth 100000 in
theorem c_C_chooseFromTheEnd (l : Launch) (dC : Nat → ClassId) (dI : Nat → Nat → Nat) (ad : Nat → Nat) (kc : Nat → ClassId) (nn : Nat → Nat) (σ : kM) {P : kM → Prop} (h : wp_C_chooseFromTheEnd nn σ P) : kMv l y_C_chooseFromTheEnd ws_C_chooseFromTheEnd rm_C_chooseFromTheEnd (dC, dI) vwC (tyC kc) (wC ad kc nn) nsG σ [.ref (ad 6), .ref (ad 5)] P := by
  intro sz
  refine k_enter (cc := b_C_chooseFromTheEnd) (maxL := 3) (ret := none) (by decide) rfl (Nat.le_of_ble_eq_true rfl) ?_
  intro p e s m below meth c ls S hr hlocks hsz hA hW hK hN hl
  generalize va_A ((wC ad kc nn) σ) sz = A at hA hW ⊢
  generalize ([.ref (ad 6), .ref (ad 5)] : List Value).toArray = args at S ⊢
  obtain ⟨hx, hb, hml, hown, hts⟩ := id S
  have hl : lv_has ls 3 [(0, .ref (ad 6)), (1, .ref (ad 5))] := hl
  unfold wp_C_chooseFromTheEnd at h
  refine lv_iconst (v := iI 0) hx hb dC_chooseFromTheEnd_0 rfl ?_
  refine lv_istore_n (lv' := [(2, .int (iI 0)), (0, .ref (ad 6)), (1, .ref (ad 5))]) hx hb dC_chooseFromTheEnd_1 rfl hl (by decide) rfl (fun ls hl => ?_)
  obtain ⟨Pe1, k1, h, hk1⟩ := h
  have xW2 : ∀ (v2 : Int) (s2 : kM) (H : Heap) (locs : List Loc) (ls : Array Slot), kW (dC, dI) vwC A s.heap (wC ad kc nn s2) H locs → lv_has ls 3 [(0, .ref (ad 6)), (1, .ref (ad 5))] → Pe1 v2 s2 → W p l e (headSpec ws_C_chooseFromTheEnd rm_C_chooseFromTheEnd).room s m args below meth c H locs 0 0 (MQ below (kQv (dC, dI) vwC (wC ad kc nn) P A) args s 0 0 A) (F0 m 26 ls []) := by
    intro v2 s2 H locs ls hW hl h
    have h := hk1 v2 s2 h
    refine lv_aload_n hx hb dC_chooseFromTheEnd_26 rfl (lv_at hl 0 rfl) ?_
    refine k_get (ci := 6) (C := R_C) (T := T_C) (N := 10) hx hb hts (fun w q => gG_in (inG_C w q)) hown hK hW.1 6 rfl rfl 1 (by decide) (hts _ (gG_in mw_168)) rfl dC_chooseFromTheEnd_27 ?_
    refine lv_aload_n hx hb dC_chooseFromTheEnd_30 rfl (lv_at hl 0 rfl) ?_
    refine k_get (ci := 6) (C := R_C) (T := T_C) (N := 10) hx hb hts (fun w q => gG_in (inG_C w q)) hown hK hW.1 6 rfl rfl 6 (by decide) (hts _ (gG_in mw_173)) rfl dC_chooseFromTheEnd_31 ?_
    refine lv_lconst (v := lI 0) hx hb dC_chooseFromTheEnd_34 (by decide) ?_
    obtain ⟨q1, h⟩ := h
    obtain ⟨s3, es3⟩ : ∃ z : kM, z = va_up s2 20 (va_up (s2 20) (s2 6 6).toNat 0) := ⟨_, rfl⟩
    refine k_last (ws' := wC ad kc nn s3) hx hb hK hW 20 12 (s2 20) rfl rfl q1 (by rw [es3]; exact wC_a20 ..) dC_chooseFromTheEnd_35 (fun H locs hW => ?_)
    have h := h s3 es3
    refine lv_aload_n hx hb dC_chooseFromTheEnd_36 rfl (lv_at hl 0 rfl) ?_
    refine k_get (ci := 6) (C := R_C) (T := T_C) (N := 10) hx hb hts (fun w q => gG_in (inG_C w q)) hown hK hW.1 6 rfl rfl 6 (by decide) (hts _ (gG_in mw_173)) rfl dC_chooseFromTheEnd_37 ?_
    refine lv_iconst (v := iI 1) hx hb dC_chooseFromTheEnd_40 rfl ?_
    refine ki_sub hx hb dC_chooseFromTheEnd_41 ?_
    refine ki_nm (fun v3 ev3 => ?_)
    have h := h v3 ev3
    refine lv_istore_n (lv' := [(2, .int (iI v3)), (0, .ref (ad 6)), (1, .ref (ad 5))]) hx hb dC_chooseFromTheEnd_42 rfl hl (by decide) rfl (fun ls hl => ?_)
    obtain ⟨Pe2, k2, h, hk2⟩ := h
    have xW1 : ∀ (v5 : Int) (s5 : kM) (H : Heap) (locs : List Loc) (ls : Array Slot), kW (dC, dI) vwC A s.heap (wC ad kc nn s5) H locs → lv_has ls 3 [] → Pe2 v5 s5 → W p l e (headSpec ws_C_chooseFromTheEnd rm_C_chooseFromTheEnd).room s m args below meth c H locs 0 0 (MQ below (kQv (dC, dI) vwC (wC ad kc nn) P A) args s 0 0 A) (F0 m 59 ls []) := by
      intro v5 s5 H locs ls hW hl h
      have h := hk2 v5 s5 h
      exact k_vret hx hb hr hlocks hW dC_chooseFromTheEnd_59 h
    have lW1 : ∀ (ki1 : Nat) (v4 : Int) (s4 : kM) (H : Heap) (locs : List Loc) (ls : Array Slot), kW (dC, dI) vwC A s.heap (wC ad kc nn s4) H locs → lv_has ls 3 [(2, .int (iI v4)), (0, .ref (ad 6)), (1, .ref (ad 5))] → lp_C_chooseFromTheEnd_43 nn Pe2 ki1 v4 s4 → W p l e (headSpec ws_C_chooseFromTheEnd rm_C_chooseFromTheEnd).room s m args below meth c H locs 0 0 (MQ below (kQv (dC, dI) vwC (wC ad kc nn) P A) args s 0 0 A) (F0 m 43 ls []) := by
      intro ki1
      induction ki1 with
      | zero => intro v4 s4 H locs ls hW hl h; exact h.elim
      | succ ki1 ih1 =>
        intro v4 s4 H locs ls hW hl h
        have h : lpB_C_chooseFromTheEnd_43 nn Pe2 (lp_C_chooseFromTheEnd_43 nn Pe2 ki1) v4 s4 := h
        unfold lpB_C_chooseFromTheEnd_43 at h
        refine lv_iload_n hx hb dC_chooseFromTheEnd_43 rfl (lv_at hl 0 rfl) ?_
        obtain ⟨q2, h⟩ := h
        obtain ⟨ht, hf⟩ := h
        refine ki_if_lt (tgt := 59) hx hb dC_chooseFromTheEnd_44 (by decide) q2 (fun c1 => ?_) (fun c1 => ?_)
        · have h := ht c1
          exact xW1 v4 s4 _ _ ls hW (lv_sub hl [] rfl) h
        · have h := hf c1
          refine lv_aload_n hx hb dC_chooseFromTheEnd_47 rfl (lv_at hl 1 rfl) ?_
          refine lv_iload_n hx hb dC_chooseFromTheEnd_48 rfl (lv_at hl 0 rfl) ?_
          refine lv_aload_n hx hb dC_chooseFromTheEnd_49 rfl (lv_at hl 2 rfl) ?_
          obtain ⟨P1, g1, h⟩ := h
          refine kc_vv (As := [.int (iI v4), .ref (ad 5)]) (rest := []) (ci := 6) (q0 := 6) S (c_C_chooseAt l dC dI ad kc nn s4 v4 g1) (cwV 2 hts (gV mw_636 mw_638 ps_14 mw_8 k_C_chooseAt) rfl rfl rfl (by decide +kernel) ⟨Nat.le_of_ble_eq_true rfl, Nat.le_of_ble_eq_true rfl⟩) hK hN hA hW (fun _ => rfl) rfl rfl rfl hl.1 rfl (Nat.le_of_ble_eq_true rfl) dC_chooseFromTheEnd_50 ⟨Nat.zero_le _, Nat.zero_le _⟩ (fun s6 H locs hp hW => ?_)
          have h := h s6 hp
          obtain ⟨v6, ev6⟩ : ∃ z : Int, z = v4 + (-1) := ⟨_, rfl⟩
          refine lv_iinc (v := iI v6) (lv' := [(2, .int (iI v6)), (0, .ref (ad 6)), (1, .ref (ad 5))]) hx hb dC_chooseFromTheEnd_53 hl (k := 0) rfl (by rw [ev6, ← iI_add]; rfl) (by decide) rfl (fun ls hl => ?_)
          have h := h v6 ev6
          refine lv_goto (tgt := 43) hx hb dC_chooseFromTheEnd_56 (by decide) ?_
          exact ih1 v6 s6 _ _ ls hW (lv_sub hl [0, 1, 2] rfl) h
    exact lW1 k2 v3 s3 _ _ ls hW (lv_sub hl [0, 1, 2] rfl) h
  have lW2 : ∀ (ki2 : Nat) (v1 : Int) (s1 : kM) (H : Heap) (locs : List Loc) (ls : Array Slot), kW (dC, dI) vwC A s.heap (wC ad kc nn s1) H locs → lv_has ls 3 [(2, .int (iI v1)), (0, .ref (ad 6)), (1, .ref (ad 5))] → lp_C_chooseFromTheEnd_2 nn Pe1 ki2 v1 s1 → W p l e (headSpec ws_C_chooseFromTheEnd rm_C_chooseFromTheEnd).room s m args below meth c H locs 0 0 (MQ below (kQv (dC, dI) vwC (wC ad kc nn) P A) args s 0 0 A) (F0 m 2 ls []) := by
    intro ki2
    induction ki2 with
    | zero => intro v1 s1 H locs ls hW hl h; exact h.elim
    | succ ki2 ih2 =>
      intro v1 s1 H locs ls hW hl h
      have h : lpB_C_chooseFromTheEnd_2 nn Pe1 (lp_C_chooseFromTheEnd_2 nn Pe1 ki2) v1 s1 := h
      unfold lpB_C_chooseFromTheEnd_2 at h
      refine lv_iload_n hx hb dC_chooseFromTheEnd_2 rfl (lv_at hl 0 rfl) ?_
      refine lv_aload_n hx hb dC_chooseFromTheEnd_3 rfl (lv_at hl 2 rfl) ?_
      refine kc_vp (As := []) (rest := [.int (iI v1)]) (ci := 5) (q0 := 5) S (c_L_count l dC dI ad kc nn s1 (P := fun r => (s1 5 3) = r) rfl) (cwV 0 hts (gV mw_632 mw_633 mw_634 mw_7 k_L_count) rfl rfl rfl (by decide +kernel) ⟨Nat.le_of_ble_eq_true rfl, Nat.le_of_ble_eq_true rfl⟩) hK hN hW.1 rfl rfl rfl hl.1 rfl (Nat.le_of_ble_eq_true rfl) dC_chooseFromTheEnd_4 ⟨Nat.zero_le _, Nat.zero_le _⟩ (fun r1 hp => ?_)
      subst hp
      obtain ⟨q3, h⟩ := h
      obtain ⟨q4, h⟩ := h
      obtain ⟨ht, hf⟩ := h
      refine ki_icmp_ge (tgt := 26) hx hb dC_chooseFromTheEnd_7 (by decide) q3 q4 (fun c2 => ?_) (fun c2 => ?_)
      · have h := ht c2
        exact xW2 v1 s1 _ _ ls hW (lv_sub hl [1, 2] rfl) h
      · have h := hf c2
        refine lv_aload_n hx hb dC_chooseFromTheEnd_10 rfl (lv_at hl 1 rfl) ?_
        refine k_get (ci := 6) (C := R_C) (T := T_C) (N := 10) hx hb hts (fun w q => gG_in (inG_C w q)) hown hK hW.1 6 rfl rfl 4 (by decide) (hts _ (gG_in mw_171)) rfl dC_chooseFromTheEnd_11 ?_
        refine lv_iload_n hx hb dC_chooseFromTheEnd_14 rfl (lv_at hl 0 rfl) ?_
        refine lv_aload_n hx hb dC_chooseFromTheEnd_15 rfl (lv_at hl 1 rfl) ?_
        refine k_get (ci := 6) (C := R_C) (T := T_C) (N := 10) hx hb hts (fun w q => gG_in (inG_C w q)) hown hK hW.1 6 rfl rfl 6 (by decide) (hts _ (gG_in mw_173)) rfl dC_chooseFromTheEnd_16 ?_
        obtain ⟨q5, h⟩ := h
        obtain ⟨s7, es7⟩ : ∃ z : kM, z = va_up s1 23 (va_up (s1 23) v1.toNat (s1 6 6)) := ⟨_, rfl⟩
        refine k_iast (ws' := wC ad kc nn s7) hx hb hK hW 23 15 (s1 23) rfl rfl q5 (by rw [es7]; exact wC_a23 ..) dC_chooseFromTheEnd_19 (fun H locs hW => ?_)
        have h := h s7 es7
        obtain ⟨v7, ev7⟩ : ∃ z : Int, z = v1 + 1 := ⟨_, rfl⟩
        refine lv_iinc (v := iI v7) (lv' := [(2, .int (iI v7)), (0, .ref (ad 6)), (1, .ref (ad 5))]) hx hb dC_chooseFromTheEnd_20 hl (k := 0) rfl (by rw [ev7, ← iI_add]; rfl) (by decide) rfl (fun ls hl => ?_)
        have h := h v7 ev7
        refine lv_goto (tgt := 2) hx hb dC_chooseFromTheEnd_23 (by decide) ?_
        exact ih2 v7 s7 _ _ ls hW (lv_sub hl [0, 1, 2] rfl) h
  exact lW2 k1 0 σ _ _ ls hW (lv_sub hl [0, 1, 2] rfl) h
