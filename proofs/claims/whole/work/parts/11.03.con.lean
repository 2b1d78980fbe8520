abbrev rm_M_at : Room := { frames := 1, cells := 0, slots := 0, locals := 22 }
set_option maxHeartbeats 4000000 in
set_option maxRecDepth 100000 in
theorem c_M_at (l : Launch) (dC : Nat → ClassId) (dI : Nat → Nat → Nat) (ad : Nat → Nat) (kc : Nat → ClassId) (nn : Nat → Nat) (σ : kM) (p0 : Int) (p1 : Int) {P : Int → kM → Prop} (h : wp_M_at nn σ p0 p1 P) : kMi l y_M_at ws_M_at rm_M_at (dC, dI) vwC (tyC kc) (wC ad kc nn) nsG σ [.ref (ad 27), .int (iI p0), .int (iI p1)] P := by
  intro sz
  refine k_enter (cc := b_M_at) (maxL := 3) (ret := (some .int)) (by decide) rfl (Nat.le_of_ble_eq_true rfl) ?_
  intro p e s m below meth c ls S hr hlocks hsz hA hW hK hN hl
  generalize va_A ((wC ad kc nn) σ) sz = A at hA hW ⊢
  generalize ([.ref (ad 27), .int (iI p0), .int (iI p1)] : List Value).toArray = args at S ⊢
  obtain ⟨hx, hb, hml, hown, hts⟩ := id S
  have hl : lv_has ls 3 [(0, .ref (ad 27)), (1, .int (iI p0)), (2, .int (iI p1))] := hl
  unfold wp_M_at at h
  refine lv_aload_n hx hb dM_at_0 rfl (lv_at hl 0 rfl) ?_
  refine lv_aload_n hx hb dM_at_1 rfl (lv_at hl 0 rfl) ?_
  refine k_get (ci := 8) (C := R_M) (T := T_M) (N := 32) hx hb hts (fun w q => gG_in (inG_M w q)) hown hK hW.1 27 rfl rfl 21 (by decide) (hts _ (gG_in mw_768)) rfl dM_at_2 ?_
  obtain ⟨q1, h⟩ := h
  have jW1 : ∀ (v1 : Int) (H : Heap) (locs : List Loc) (ls : Array Slot), kW (dC, dI) vwC A s.heap (wC ad kc nn σ) H locs → lv_has ls 3 [(0, .ref (ad 27)), (1, .int (iI p0)), (2, .int (iI p1))] → jn_M_at_40 nn p0 p1 σ P v1 → W p l e (headSpec ws_M_at rm_M_at).room s m args below meth c H locs 0 0 (MQ below (kQi (dC, dI) vwC (wC ad kc nn) P A) args s 0 0 A) (F0 m 40 ls [.int (iI v1), .ref (ad 27)]) := by
    intro v1 H locs ls hW hl h
    unfold jn_M_at_40 at h
    obtain ⟨s1, es1⟩ : ∃ z : kM, z = va_up σ 27 (va_up (σ 27) 0 v1) := ⟨_, rfl⟩
    refine k_put (ty := .int) (ws' := wC ad kc nn s1) (ci := 8) (C := R_M) (T := T_M) (N := 32) hx hb hts (fun w q => gG_in (inG_M w q)) ty_M tk_M nm_M hown hK hW 27 rfl rfl 0 (by decide) (hts _ (gG_in mw_747)) rfl (by decide +kernel) rfl rfl (Nat.le_of_ble_eq_true rfl) (by rw [es1]; exact wC_p27_0 ..) dM_at_40 (fun H locs hW => ?_)
    have h := h s1 es1
    refine lv_aload_n hx hb dM_at_43 rfl (lv_at hl 0 rfl) ?_
    refine k_get (ci := 8) (C := R_M) (T := T_M) (N := 32) hx hb hts (fun w q => gG_in (inG_M w q)) hown hK hW.1 27 rfl rfl 0 (by decide) (hts _ (gG_in mw_747)) rfl dM_at_44 ?_
    obtain ⟨q2, h⟩ := h
    obtain ⟨ht, hf⟩ := h
    refine ki_if_le (tgt := 54) hx hb dM_at_47 (by decide) q2 (fun c1 => ?_) (fun c1 => ?_)
    · have h := ht c1
      refine lv_iload_n hx hb dM_at_54 rfl (lv_at hl 2 rfl) ?_
      obtain ⟨q3, h⟩ := h
      obtain ⟨ht, hf⟩ := h
      refine ki_if_ne (tgt := 67) hx hb dM_at_55 (by decide) q3 (fun c2 => ?_) (fun c2 => ?_)
      · have h := ht c2
        refine lv_aload_n hx hb dM_at_67 rfl (lv_at hl 0 rfl) ?_
        refine k_get (ci := 8) (C := R_M) (T := T_M) (N := 32) hx hb hts (fun w q => gG_in (inG_M w q)) hown hK hW.1 27 rfl rfl 27 (by decide) (hts _ (gG_in mw_774)) rfl dM_at_68 ?_
        refine lv_iload_n hx hb dM_at_71 rfl (lv_at hl 1 rfl) ?_
        obtain ⟨q4, h⟩ := h
        refine k_iald hx hb hK hW.1 41 32 (s1 41) rfl rfl q4 dM_at_72 ?_
        exact k_iret hx hb hr hlocks hW dM_at_73 h
      · have h := hf c2
        refine lv_aload_n hx hb dM_at_58 rfl (lv_at hl 0 rfl) ?_
        refine k_get (ci := 8) (C := R_M) (T := T_M) (N := 32) hx hb hts (fun w q => gG_in (inG_M w q)) hown hK hW.1 27 rfl rfl 26 (by decide) (hts _ (gG_in mw_773)) rfl dM_at_59 ?_
        refine lv_iload_n hx hb dM_at_62 rfl (lv_at hl 1 rfl) ?_
        obtain ⟨q5, h⟩ := h
        refine k_iald hx hb hK hW.1 40 31 (s1 40) rfl rfl q5 dM_at_63 ?_
        refine lv_goto (tgt := 73) hx hb dM_at_64 (by decide) ?_
        exact k_iret hx hb hr hlocks hW dM_at_73 h
    · have h := hf c1
      refine lv_iconst (v := iI 0) hx hb dM_at_50 rfl ?_
      refine lv_goto (tgt := 73) hx hb dM_at_51 (by decide) ?_
      exact k_iret hx hb hr hlocks hW dM_at_73 h
  obtain ⟨ht, hf⟩ := h
  refine ki_if_ne (tgt := 12) hx hb dM_at_5 (by decide) q1 (fun c3 => ?_) (fun c3 => ?_)
  · have h := ht c3
    refine lv_iload_n hx hb dM_at_12 rfl (lv_at hl 1 rfl) ?_
    refine lv_iconst (v := iI 0) hx hb dM_at_13 rfl ?_
    refine lv_aload_n hx hb dM_at_14 rfl (lv_at hl 0 rfl) ?_
    refine k_get (ci := 8) (C := R_M) (T := T_M) (N := 32) hx hb hts (fun w q => gG_in (inG_M w q)) hown hK hW.1 27 rfl rfl 28 (by decide) (hts _ (gG_in mw_775)) rfl dM_at_15 ?_
    refine lv_iconst (v := iI 1) hx hb dM_at_18 rfl ?_
    refine ki_sub hx hb dM_at_19 ?_
    obtain ⟨P1, g1, h⟩ := h
    refine kc_sp (As := [.int (iI p0), .int (iI 0), .int (iI ((σ 27 28) - 1))]) (rest := [.ref (ad 27)]) S (c_M_isIn l dC dI (tyC kc) (wC ad kc nn) nn σ p0 0 ((σ 27 28) - 1) g1) (cwS 3 hts (gS mw_852 mw_853 mw_10 k_M_isIn) rfl rfl rfl (by decide +kernel) ⟨Nat.le_of_ble_eq_true rfl, Nat.le_of_ble_eq_true rfl⟩) hK hN hW.1 rfl hl.1 rfl (Nat.le_of_ble_eq_true rfl) dM_at_20 ⟨Nat.zero_le _, Nat.zero_le _⟩ (fun r1 hp => ?_)
    have h := h r1 hp
    obtain ⟨q6, h⟩ := h
    obtain ⟨ht, hf⟩ := h
    refine ki_if_eq (tgt := 39) hx hb dM_at_23 (by decide) q6 (fun c4 => ?_) (fun c4 => ?_)
    · have h := ht c4
      refine lv_iconst (v := iI 2) hx hb dM_at_39 rfl ?_
      exact jW1 2 _ _ ls hW (lv_sub hl [0, 1, 2] rfl) h
    · have h := hf c4
      refine lv_iload_n hx hb dM_at_26 rfl (lv_at hl 2 rfl) ?_
      refine lv_iconst (v := iI 0) hx hb dM_at_27 rfl ?_
      refine lv_iconst (v := iI 1) hx hb dM_at_28 rfl ?_
      obtain ⟨P2, g2, h⟩ := h
      refine kc_sp (As := [.int (iI p1), .int (iI 0), .int (iI 1)]) (rest := [.ref (ad 27)]) S (c_M_isIn l dC dI (tyC kc) (wC ad kc nn) nn σ p1 0 1 g2) (cwS 3 hts (gS mw_852 mw_853 mw_10 k_M_isIn) rfl rfl rfl (by decide +kernel) ⟨Nat.le_of_ble_eq_true rfl, Nat.le_of_ble_eq_true rfl⟩) hK hN hW.1 rfl hl.1 rfl (Nat.le_of_ble_eq_true rfl) dM_at_29 ⟨Nat.zero_le _, Nat.zero_le _⟩ (fun r2 hp => ?_)
      have h := h r2 hp
      obtain ⟨q7, h⟩ := h
      obtain ⟨ht, hf⟩ := h
      refine ki_if_eq (tgt := 39) hx hb dM_at_32 (by decide) q7 (fun c5 => ?_) (fun c5 => ?_)
      · have h := ht c5
        refine lv_iconst (v := iI 2) hx hb dM_at_39 rfl ?_
        exact jW1 2 _ _ ls hW (lv_sub hl [0, 1, 2] rfl) h
      · have h := hf c5
        refine lv_iconst (v := iI 0) hx hb dM_at_35 rfl ?_
        refine lv_goto (tgt := 40) hx hb dM_at_36 (by decide) ?_
        exact jW1 0 _ _ ls hW (lv_sub hl [0, 1, 2] rfl) h
  · have h := hf c3
    refine lv_iconst (v := iI 1) hx hb dM_at_8 rfl ?_
    refine lv_goto (tgt := 40) hx hb dM_at_9 (by decide) ?_
    exact jW1 1 _ _ ls hW (lv_sub hl [0, 1, 2] rfl) h
abbrev rm_M_clipped : Room := { frames := 1, cells := 0, slots := 0, locals := 22 }
set_option maxHeartbeats 4000000 in
set_option maxRecDepth 100000 in
theorem c_M_clipped (l : Launch) (dC : Nat → ClassId) (dI : Nat → Nat → Nat) (ad : Nat → Nat) (kc : Nat → ClassId) (nn : Nat → Nat) (σ : kM) (p0 : Int) {P : Int → kM → Prop} (h : wp_M_clipped nn σ p0 P) : kMi l y_M_clipped ws_M_clipped rm_M_clipped (dC, dI) vwC (tyC kc) (wC ad kc nn) nsG σ [.ref (ad 27), .int (iI p0)] P := by
  intro sz
  refine k_enter (cc := b_M_clipped) (maxL := 2) (ret := (some .int)) (by decide) rfl (Nat.le_of_ble_eq_true rfl) ?_
  intro p e s m below meth c ls S hr hlocks hsz hA hW hK hN hl
  generalize va_A ((wC ad kc nn) σ) sz = A at hA hW ⊢
  generalize ([.ref (ad 27), .int (iI p0)] : List Value).toArray = args at S ⊢
  obtain ⟨hx, hb, hml, hown, hts⟩ := id S
  have hl : lv_has ls 2 [(0, .ref (ad 27)), (1, .int (iI p0))] := hl
  unfold wp_M_clipped at h
  refine lv_aload_n hx hb dM_clipped_0 rfl (lv_at hl 0 rfl) ?_
  refine lv_aload_n hx hb dM_clipped_1 rfl (lv_at hl 0 rfl) ?_
  refine k_get (ci := 8) (C := R_M) (T := T_M) (N := 32) hx hb hts (fun w q => gG_in (inG_M w q)) hown hK hW.1 27 rfl rfl 21 (by decide) (hts _ (gG_in mw_768)) rfl dM_clipped_2 ?_
  obtain ⟨q1, h⟩ := h
  have jW1 : ∀ (v1 : Int) (H : Heap) (locs : List Loc) (ls : Array Slot), kW (dC, dI) vwC A s.heap (wC ad kc nn σ) H locs → lv_has ls 2 [(0, .ref (ad 27)), (1, .int (iI p0))] → jn_M_clipped_26 nn p0 σ P v1 → W p l e (headSpec ws_M_clipped rm_M_clipped).room s m args below meth c H locs 0 0 (MQ below (kQi (dC, dI) vwC (wC ad kc nn) P A) args s 0 0 A) (F0 m 26 ls [.int (iI v1), .ref (ad 27)]) := by
    intro v1 H locs ls hW hl h
    unfold jn_M_clipped_26 at h
    obtain ⟨s1, es1⟩ : ∃ z : kM, z = va_up σ 27 (va_up (σ 27) 0 v1) := ⟨_, rfl⟩
    refine k_put (ty := .int) (ws' := wC ad kc nn s1) (ci := 8) (C := R_M) (T := T_M) (N := 32) hx hb hts (fun w q => gG_in (inG_M w q)) ty_M tk_M nm_M hown hK hW 27 rfl rfl 0 (by decide) (hts _ (gG_in mw_747)) rfl (by decide +kernel) rfl rfl (Nat.le_of_ble_eq_true rfl) (by rw [es1]; exact wC_p27_0 ..) dM_clipped_26 (fun H locs hW => ?_)
    have h := h s1 es1
    refine lv_aload_n hx hb dM_clipped_29 rfl (lv_at hl 0 rfl) ?_
    refine k_get (ci := 8) (C := R_M) (T := T_M) (N := 32) hx hb hts (fun w q => gG_in (inG_M w q)) hown hK hW.1 27 rfl rfl 0 (by decide) (hts _ (gG_in mw_747)) rfl dM_clipped_30 ?_
    obtain ⟨q2, h⟩ := h
    obtain ⟨ht, hf⟩ := h
    refine ki_if_le (tgt := 40) hx hb dM_clipped_33 (by decide) q2 (fun c1 => ?_) (fun c1 => ?_)
    · have h := ht c1
      refine lv_iload_n hx hb dM_clipped_40 rfl (lv_at hl 1 rfl) ?_
      obtain ⟨q3, h⟩ := h
      obtain ⟨ht, hf⟩ := h
      refine ki_if_ne (tgt := 54) hx hb dM_clipped_41 (by decide) q3 (fun c2 => ?_) (fun c2 => ?_)
      · have h := ht c2
        refine lv_iload_n hx hb dM_clipped_54 rfl (lv_at hl 1 rfl) ?_
        refine lv_iconst (v := iI 1) hx hb dM_clipped_55 rfl ?_
        obtain ⟨q4, h⟩ := h
        obtain ⟨ht, hf⟩ := h
        refine ki_icmp_ne (tgt := 68) hx hb dM_clipped_56 (by decide) q4 (by constructor <;> decide) (fun c3 => ?_) (fun c3 => ?_)
        · have h := ht c3
          refine lv_aload_n hx hb dM_clipped_68 rfl (lv_at hl 0 rfl) ?_
          refine k_get (ci := 8) (C := R_M) (T := T_M) (N := 32) hx hb hts (fun w q => gG_in (inG_M w q)) hown hK hW.1 27 rfl rfl 22 (by decide) (hts _ (gG_in mw_769)) rfl dM_clipped_69 ?_
          exact k_iret hx hb hr hlocks hW dM_clipped_72 h
        · have h := hf c3
          refine lv_aload_n hx hb dM_clipped_59 rfl (lv_at hl 0 rfl) ?_
          refine k_get (ci := 8) (C := R_M) (T := T_M) (N := 32) hx hb hts (fun w q => gG_in (inG_M w q)) hown hK hW.1 27 rfl rfl 25 (by decide) (hts _ (gG_in mw_772)) rfl dM_clipped_60 ?_
          refine lv_iconst (v := iI 0) hx hb dM_clipped_63 rfl ?_
          refine k_iald hx hb hK hW.1 39 30 (s1 39) rfl rfl ⟨by decide, by decide, by decide⟩ dM_clipped_64 ?_
          refine lv_goto (tgt := 72) hx hb dM_clipped_65 (by decide) ?_
          exact k_iret hx hb hr hlocks hW dM_clipped_72 h
      · have h := hf c2
        refine lv_aload_n hx hb dM_clipped_44 rfl (lv_at hl 0 rfl) ?_
        refine k_get (ci := 8) (C := R_M) (T := T_M) (N := 32) hx hb hts (fun w q => gG_in (inG_M w q)) hown hK hW.1 27 rfl rfl 24 (by decide) (hts _ (gG_in mw_771)) rfl dM_clipped_45 ?_
        refine lv_iconst (v := iI 0) hx hb dM_clipped_48 rfl ?_
        refine k_lald hx hb hK hW.1 38 29 (s1 38) rfl rfl ⟨by decide, by decide, by decide⟩ dM_clipped_49 ?_
        refine kl_l2i hx hb dM_clipped_50 ?_
        refine lv_goto (tgt := 72) hx hb dM_clipped_51 (by decide) ?_
        exact k_iret hx hb hr hlocks hW dM_clipped_72 h
    · have h := hf c1
      refine lv_iconst (v := iI 0) hx hb dM_clipped_36 rfl ?_
      refine lv_goto (tgt := 72) hx hb dM_clipped_37 (by decide) ?_
      exact k_iret hx hb hr hlocks hW dM_clipped_72 h
  obtain ⟨ht, hf⟩ := h
  refine ki_if_ne (tgt := 12) hx hb dM_clipped_5 (by decide) q1 (fun c4 => ?_) (fun c4 => ?_)
  · have h := ht c4
    refine lv_iload_n hx hb dM_clipped_12 rfl (lv_at hl 1 rfl) ?_
    refine lv_iconst (v := iI 0) hx hb dM_clipped_13 rfl ?_
    refine lv_iconst (v := iI 2) hx hb dM_clipped_14 rfl ?_
    obtain ⟨P1, g1, h⟩ := h
    refine kc_sp (As := [.int (iI p0), .int (iI 0), .int (iI 2)]) (rest := [.ref (ad 27)]) S (c_M_isIn l dC dI (tyC kc) (wC ad kc nn) nn σ p0 0 2 g1) (cwS 3 hts (gS mw_852 mw_853 mw_10 k_M_isIn) rfl rfl rfl (by decide +kernel) ⟨Nat.le_of_ble_eq_true rfl, Nat.le_of_ble_eq_true rfl⟩) hK hN hW.1 rfl hl.1 rfl (Nat.le_of_ble_eq_true rfl) dM_clipped_15 ⟨Nat.zero_le _, Nat.zero_le _⟩ (fun r1 hp => ?_)
    have h := h r1 hp
    obtain ⟨q5, h⟩ := h
    obtain ⟨ht, hf⟩ := h
    refine ki_if_eq (tgt := 25) hx hb dM_clipped_18 (by decide) q5 (fun c5 => ?_) (fun c5 => ?_)
    · have h := ht c5
      refine lv_iconst (v := iI 2) hx hb dM_clipped_25 rfl ?_
      exact jW1 2 _ _ ls hW (lv_sub hl [0, 1] rfl) h
    · have h := hf c5
      refine lv_iconst (v := iI 0) hx hb dM_clipped_21 rfl ?_
      refine lv_goto (tgt := 26) hx hb dM_clipped_22 (by decide) ?_
      exact jW1 0 _ _ ls hW (lv_sub hl [0, 1] rfl) h
  · have h := hf c4
    refine lv_iconst (v := iI 1) hx hb dM_clipped_8 rfl ?_
    refine lv_goto (tgt := 26) hx hb dM_clipped_9 (by decide) ?_
    exact jW1 1 _ _ ls hW (lv_sub hl [0, 1] rfl) h
abbrev rm_M_shrink : Room := { frames := 1, cells := 0, slots := 0, locals := 22 }
set_option maxHeartbeats 4000000 in
set_option maxRecDepth 100000 in
theorem c_M_shrink (l : Launch) (dC : Nat → ClassId) (dI : Nat → Nat → Nat) (ad : Nat → Nat) (kc : Nat → ClassId) (nn : Nat → Nat) (σ : kM) (p0 : Int) (p1 : Int) (p2 : Int) {P : Int → kM → Prop} (h : wp_M_shrink nn σ p0 p1 p2 P) : kMi l y_M_shrink ws_M_shrink rm_M_shrink (dC, dI) vwC (tyC kc) (wC ad kc nn) nsG σ [.ref (ad 27), .int (iI p0), .int (iI p1), .int (iI p2)] P := by
  intro sz
  refine k_enter (cc := b_M_shrink) (maxL := 4) (ret := (some .int)) (by decide) rfl (Nat.le_of_ble_eq_true rfl) ?_
  intro p e s m below meth c ls S hr hlocks hsz hA hW hK hN hl
  generalize va_A ((wC ad kc nn) σ) sz = A at hA hW ⊢
  generalize ([.ref (ad 27), .int (iI p0), .int (iI p1), .int (iI p2)] : List Value).toArray = args at S ⊢
  obtain ⟨hx, hb, hml, hown, hts⟩ := id S
  have hl : lv_has ls 4 [(0, .ref (ad 27)), (1, .int (iI p0)), (2, .int (iI p1)), (3, .int (iI p2))] := hl
  unfold wp_M_shrink at h
  refine lv_aload_n hx hb dM_shrink_0 rfl (lv_at hl 0 rfl) ?_
  refine lv_iload_n hx hb dM_shrink_1 rfl (lv_at hl 1 rfl) ?_
  refine lv_iconst (v := iI 0) hx hb dM_shrink_2 rfl ?_
  refine lv_aload_n hx hb dM_shrink_3 rfl (lv_at hl 0 rfl) ?_
  refine k_get (ci := 8) (C := R_M) (T := T_M) (N := 32) hx hb hts (fun w q => gG_in (inG_M w q)) hown hK hW.1 27 rfl rfl 20 (by decide) (hts _ (gG_in mw_767)) rfl dM_shrink_4 ?_
  refine lv_iconst (v := iI 1) hx hb dM_shrink_7 rfl ?_
  refine ki_sub hx hb dM_shrink_8 ?_
  obtain ⟨P1, g1, h⟩ := h
  refine kc_sp (As := [.int (iI p0), .int (iI 0), .int (iI ((σ 27 20) - 1))]) (rest := [.ref (ad 27)]) S (c_M_isIn l dC dI (tyC kc) (wC ad kc nn) nn σ p0 0 ((σ 27 20) - 1) g1) (cwS 3 hts (gS mw_852 mw_853 mw_10 k_M_isIn) rfl rfl rfl (by decide +kernel) ⟨Nat.le_of_ble_eq_true rfl, Nat.le_of_ble_eq_true rfl⟩) hK hN hW.1 rfl hl.1 rfl (Nat.le_of_ble_eq_true rfl) dM_shrink_9 ⟨Nat.zero_le _, Nat.zero_le _⟩ (fun r1 hp => ?_)
  have h := h r1 hp
  obtain ⟨q1, h⟩ := h
  have jW1 : ∀ (v1 : Int) (H : Heap) (locs : List Loc) (ls : Array Slot), kW (dC, dI) vwC A s.heap (wC ad kc nn σ) H locs → lv_has ls 4 [(0, .ref (ad 27)), (1, .int (iI p0)), (2, .int (iI p1)), (3, .int (iI p2))] → jn_M_shrink_44 nn p0 p1 p2 σ P v1 → W p l e (headSpec ws_M_shrink rm_M_shrink).room s m args below meth c H locs 0 0 (MQ below (kQi (dC, dI) vwC (wC ad kc nn) P A) args s 0 0 A) (F0 m 44 ls [.int (iI v1), .ref (ad 27)]) := by
    intro v1 H locs ls hW hl h
    unfold jn_M_shrink_44 at h
    obtain ⟨s1, es1⟩ : ∃ z : kM, z = va_up σ 27 (va_up (σ 27) 0 v1) := ⟨_, rfl⟩
    refine k_put (ty := .int) (ws' := wC ad kc nn s1) (ci := 8) (C := R_M) (T := T_M) (N := 32) hx hb hts (fun w q => gG_in (inG_M w q)) ty_M tk_M nm_M hown hK hW 27 rfl rfl 0 (by decide) (hts _ (gG_in mw_747)) rfl (by decide +kernel) rfl rfl (Nat.le_of_ble_eq_true rfl) (by rw [es1]; exact wC_p27_0 ..) dM_shrink_44 (fun H locs hW => ?_)
    have h := h s1 es1
    refine lv_aload_n hx hb dM_shrink_47 rfl (lv_at hl 0 rfl) ?_
    refine k_get (ci := 8) (C := R_M) (T := T_M) (N := 32) hx hb hts (fun w q => gG_in (inG_M w q)) hown hK hW.1 27 rfl rfl 0 (by decide) (hts _ (gG_in mw_747)) rfl dM_shrink_48 ?_
    obtain ⟨q2, h⟩ := h
    obtain ⟨ht, hf⟩ := h
    refine ki_if_le (tgt := 58) hx hb dM_shrink_51 (by decide) q2 (fun c1 => ?_) (fun c1 => ?_)
    · have h := ht c1
      refine lv_aload_n hx hb dM_shrink_58 rfl (lv_at hl 0 rfl) ?_
      refine k_get (ci := 8) (C := R_M) (T := T_M) (N := 32) hx hb hts (fun w q => gG_in (inG_M w q)) hown hK hW.1 27 rfl rfl 17 (by decide) (hts _ (gG_in mw_764)) rfl dM_shrink_59 ?_
      refine lv_iload_n hx hb dM_shrink_62 rfl (lv_at hl 1 rfl) ?_
      obtain ⟨q3, h⟩ := h
      refine k_iald hx hb hK hW.1 34 25 (s1 34) rfl rfl q3 dM_shrink_63 ?_
      refine lv_iload_n hx hb dM_shrink_64 rfl (lv_at hl 2 rfl) ?_
      refine ki_mul hx hb dM_shrink_65 ?_
      refine lv_iload_n hx hb dM_shrink_66 rfl (lv_at hl 3 rfl) ?_
      obtain ⟨q4, h⟩ := h
      refine ki_div hx hb dM_shrink_67 q4 ?_
      exact k_iret hx hb hr hlocks hW dM_shrink_68 h
    · have h := hf c1
      refine lv_iconst (v := iI 0) hx hb dM_shrink_54 rfl ?_
      refine lv_goto (tgt := 68) hx hb dM_shrink_55 (by decide) ?_
      exact k_iret hx hb hr hlocks hW dM_shrink_68 h
  obtain ⟨ht, hf⟩ := h
  refine ki_if_ne (tgt := 19) hx hb dM_shrink_12 (by decide) q1 (fun c2 => ?_) (fun c2 => ?_)
  · have h := ht c2
    refine lv_iload_n hx hb dM_shrink_19 rfl (lv_at hl 3 rfl) ?_
    refine lv_iconst (v := iI 1) hx hb dM_shrink_20 rfl ?_
    refine lv_sipush (v := iI 1000) hx hb dM_shrink_21 (by decide) ?_
    obtain ⟨P2, g2, h⟩ := h
    refine kc_sp (As := [.int (iI p2), .int (iI 1), .int (iI 1000)]) (rest := [.ref (ad 27)]) S (c_M_isIn l dC dI (tyC kc) (wC ad kc nn) nn σ p2 1 1000 g2) (cwS 3 hts (gS mw_852 mw_853 mw_10 k_M_isIn) rfl rfl rfl (by decide +kernel) ⟨Nat.le_of_ble_eq_true rfl, Nat.le_of_ble_eq_true rfl⟩) hK hN hW.1 rfl hl.1 rfl (Nat.le_of_ble_eq_true rfl) dM_shrink_24 ⟨Nat.zero_le _, Nat.zero_le _⟩ (fun r2 hp => ?_)
    have h := h r2 hp
    obtain ⟨q5, h⟩ := h
    obtain ⟨ht, hf⟩ := h
    refine ki_if_eq (tgt := 43) hx hb dM_shrink_27 (by decide) q5 (fun c3 => ?_) (fun c3 => ?_)
    · have h := ht c3
      refine lv_iconst (v := iI 2) hx hb dM_shrink_43 rfl ?_
      exact jW1 2 _ _ ls hW (lv_sub hl [0, 1, 2, 3] rfl) h
    · have h := hf c3
      refine lv_iload_n hx hb dM_shrink_30 rfl (lv_at hl 2 rfl) ?_
      refine lv_iconst (v := iI 0) hx hb dM_shrink_31 rfl ?_
      refine lv_iload_n hx hb dM_shrink_32 rfl (lv_at hl 3 rfl) ?_
      obtain ⟨P3, g3, h⟩ := h
      refine kc_sp (As := [.int (iI p1), .int (iI 0), .int (iI p2)]) (rest := [.ref (ad 27)]) S (c_M_isIn l dC dI (tyC kc) (wC ad kc nn) nn σ p1 0 p2 g3) (cwS 3 hts (gS mw_852 mw_853 mw_10 k_M_isIn) rfl rfl rfl (by decide +kernel) ⟨Nat.le_of_ble_eq_true rfl, Nat.le_of_ble_eq_true rfl⟩) hK hN hW.1 rfl hl.1 rfl (Nat.le_of_ble_eq_true rfl) dM_shrink_33 ⟨Nat.zero_le _, Nat.zero_le _⟩ (fun r3 hp => ?_)
      have h := h r3 hp
      obtain ⟨q6, h⟩ := h
      obtain ⟨ht, hf⟩ := h
      refine ki_if_eq (tgt := 43) hx hb dM_shrink_36 (by decide) q6 (fun c4 => ?_) (fun c4 => ?_)
      · have h := ht c4
        refine lv_iconst (v := iI 2) hx hb dM_shrink_43 rfl ?_
        exact jW1 2 _ _ ls hW (lv_sub hl [0, 1, 2, 3] rfl) h
      · have h := hf c4
        refine lv_iconst (v := iI 0) hx hb dM_shrink_39 rfl ?_
        refine lv_goto (tgt := 44) hx hb dM_shrink_40 (by decide) ?_
        exact jW1 0 _ _ ls hW (lv_sub hl [0, 1, 2, 3] rfl) h
  · have h := hf c2
    refine lv_iconst (v := iI 1) hx hb dM_shrink_15 rfl ?_
    refine lv_goto (tgt := 44) hx hb dM_shrink_16 (by decide) ?_
    exact jW1 1 _ _ ls hW (lv_sub hl [0, 1, 2, 3] rfl) h
abbrev rm_M_row : Room := { frames := 1, cells := 0, slots := 0, locals := 22 }
set_option maxHeartbeats 4000000 in
set_option maxRecDepth 100000 in
theorem c_M_row (l : Launch) (dC : Nat → ClassId) (dI : Nat → Nat → Nat) (ad : Nat → Nat) (kc : Nat → ClassId) (nn : Nat → Nat) (σ : kM) (p0 : Int) (p1 : Int) {P : Int → kM → Prop} (h : wp_M_row nn σ p0 p1 P) : kMi l y_M_row ws_M_row rm_M_row (dC, dI) vwC (tyC kc) (wC ad kc nn) nsG σ [.ref (ad 27), .int (iI p0), .int (iI p1)] P := by
  intro sz
  refine k_enter (cc := b_M_row) (maxL := 3) (ret := (some .boolean)) (by decide) rfl (Nat.le_of_ble_eq_true rfl) ?_
  intro p e s m below meth c ls S hr hlocks hsz hA hW hK hN hl
  generalize va_A ((wC ad kc nn) σ) sz = A at hA hW ⊢
  generalize ([.ref (ad 27), .int (iI p0), .int (iI p1)] : List Value).toArray = args at S ⊢
  obtain ⟨hx, hb, hml, hown, hts⟩ := id S
  have hl : lv_has ls 3 [(0, .ref (ad 27)), (1, .int (iI p0)), (2, .int (iI p1))] := hl
  unfold wp_M_row at h
  refine lv_aload_n hx hb dM_row_0 rfl (lv_at hl 0 rfl) ?_
  refine lv_iload_n hx hb dM_row_1 rfl (lv_at hl 1 rfl) ?_
  refine lv_iconst (v := iI 0) hx hb dM_row_2 rfl ?_
  refine lv_sipush (v := iI 1000) hx hb dM_row_3 (by decide) ?_
  obtain ⟨P1, g1, h⟩ := h
  refine kc_sp (As := [.int (iI p0), .int (iI 0), .int (iI 1000)]) (rest := [.ref (ad 27)]) S (c_M_isIn l dC dI (tyC kc) (wC ad kc nn) nn σ p0 0 1000 g1) (cwS 3 hts (gS mw_852 mw_853 mw_10 k_M_isIn) rfl rfl rfl (by decide +kernel) ⟨Nat.le_of_ble_eq_true rfl, Nat.le_of_ble_eq_true rfl⟩) hK hN hW.1 rfl hl.1 rfl (Nat.le_of_ble_eq_true rfl) dM_row_6 ⟨Nat.zero_le _, Nat.zero_le _⟩ (fun r1 hp => ?_)
  have h := h r1 hp
  obtain ⟨q1, h⟩ := h
  have jW1 : ∀ (v1 : Int) (H : Heap) (locs : List Loc) (ls : Array Slot), kW (dC, dI) vwC A s.heap (wC ad kc nn σ) H locs → lv_has ls 3 [(0, .ref (ad 27)), (1, .int (iI p0)), (2, .int (iI p1))] → jn_M_row_50 nn p0 p1 σ P v1 → W p l e (headSpec ws_M_row rm_M_row).room s m args below meth c H locs 0 0 (MQ below (kQi (dC, dI) vwC (wC ad kc nn) P A) args s 0 0 A) (F0 m 50 ls [.int (iI v1), .ref (ad 27)]) := by
    intro v1 H locs ls hW hl h
    unfold jn_M_row_50 at h
    obtain ⟨s1, es1⟩ : ∃ z : kM, z = va_up σ 27 (va_up (σ 27) 0 v1) := ⟨_, rfl⟩
    refine k_put (ty := .int) (ws' := wC ad kc nn s1) (ci := 8) (C := R_M) (T := T_M) (N := 32) hx hb hts (fun w q => gG_in (inG_M w q)) ty_M tk_M nm_M hown hK hW 27 rfl rfl 0 (by decide) (hts _ (gG_in mw_747)) rfl (by decide +kernel) rfl rfl (Nat.le_of_ble_eq_true rfl) (by rw [es1]; exact wC_p27_0 ..) dM_row_50 (fun H locs hW => ?_)
    have h := h s1 es1
    refine lv_aload_n hx hb dM_row_53 rfl (lv_at hl 0 rfl) ?_
    refine k_get (ci := 8) (C := R_M) (T := T_M) (N := 32) hx hb hts (fun w q => gG_in (inG_M w q)) hown hK hW.1 27 rfl rfl 0 (by decide) (hts _ (gG_in mw_747)) rfl dM_row_54 ?_
    obtain ⟨q2, h⟩ := h
    obtain ⟨ht, hf⟩ := h
    refine ki_if_gt (tgt := 69) hx hb dM_row_57 (by decide) q2 (fun c1 => ?_) (fun c1 => ?_)
    · have h := ht c1
      refine lv_iconst (v := iI 0) hx hb dM_row_69 rfl ?_
      exact k_zret hx hb hr hlocks hW dM_row_70 (by decide) h
    · have h := hf c1
      refine lv_aload_n hx hb dM_row_60 rfl (lv_at hl 0 rfl) ?_
      refine k_get (ci := 8) (C := R_M) (T := T_M) (N := 32) hx hb hts (fun w q => gG_in (inG_M w q)) hown hK hW.1 27 rfl rfl 31 (by decide) (hts _ (gG_in mw_778)) rfl dM_row_61 ?_
      refine lv_bipush (v := iI 8) hx hb dM_row_64 (by decide) ?_
      obtain ⟨q3, h⟩ := h
      obtain ⟨ht, hf⟩ := h
      refine ki_icmp_ne (tgt := 71) hx hb dM_row_66 (by decide) q3 (by constructor <;> decide) (fun c2 => ?_) (fun c2 => ?_)
      · have h := ht c2
        refine lv_aload_n hx hb dM_row_71 rfl (lv_at hl 0 rfl) ?_
        refine k_get (ci := 8) (C := R_M) (T := T_M) (N := 32) hx hb hts (fun w q => gG_in (inG_M w q)) hown hK hW.1 27 rfl rfl 29 (by decide) (hts _ (gG_in mw_776)) rfl dM_row_72 ?_
        refine lv_aload_n hx hb dM_row_75 rfl (lv_at hl 0 rfl) ?_
        refine k_get (ci := 8) (C := R_M) (T := T_M) (N := 32) hx hb hts (fun w q => gG_in (inG_M w q)) hown hK hW.1 27 rfl rfl 31 (by decide) (hts _ (gG_in mw_778)) rfl dM_row_76 ?_
        refine lv_iload_n hx hb dM_row_79 rfl (lv_at hl 1 rfl) ?_
        obtain ⟨q4, h⟩ := h
        obtain ⟨s2, es2⟩ : ∃ z : kM, z = va_up s1 42 (va_up (s1 42) (s1 27 31).toNat p0) := ⟨_, rfl⟩
        refine k_iast (ws' := wC ad kc nn s2) hx hb hK hW 42 33 (s1 42) rfl rfl q4 (by rw [es2]; exact wC_a42 ..) dM_row_80 (fun H locs hW => ?_)
        have h := h s2 es2
        refine lv_aload_n hx hb dM_row_81 rfl (lv_at hl 0 rfl) ?_
        refine k_get (ci := 8) (C := R_M) (T := T_M) (N := 32) hx hb hts (fun w q => gG_in (inG_M w q)) hown hK hW.1 27 rfl rfl 30 (by decide) (hts _ (gG_in mw_777)) rfl dM_row_82 ?_
        refine lv_aload_n hx hb dM_row_85 rfl (lv_at hl 0 rfl) ?_
        refine k_get (ci := 8) (C := R_M) (T := T_M) (N := 32) hx hb hts (fun w q => gG_in (inG_M w q)) hown hK hW.1 27 rfl rfl 31 (by decide) (hts _ (gG_in mw_778)) rfl dM_row_86 ?_
        refine lv_iload_n hx hb dM_row_89 rfl (lv_at hl 2 rfl) ?_
        obtain ⟨q5, h⟩ := h
        obtain ⟨s3, es3⟩ : ∃ z : kM, z = va_up s2 43 (va_up (s2 43) (s2 27 31).toNat p1) := ⟨_, rfl⟩
        refine k_iast (ws' := wC ad kc nn s3) hx hb hK hW 43 34 (s2 43) rfl rfl q5 (by rw [es3]; exact wC_a43 ..) dM_row_90 (fun H locs hW => ?_)
        have h := h s3 es3
        refine lv_aload_n hx hb dM_row_91 rfl (lv_at hl 0 rfl) ?_
        refine lv_dup hx hb dM_row_92 rfl ?_
        refine k_get (ci := 8) (C := R_M) (T := T_M) (N := 32) hx hb hts (fun w q => gG_in (inG_M w q)) hown hK hW.1 27 rfl rfl 31 (by decide) (hts _ (gG_in mw_778)) rfl dM_row_93 ?_
        refine lv_iconst (v := iI 1) hx hb dM_row_96 rfl ?_
        refine ki_add hx hb dM_row_97 ?_
        obtain ⟨s4, es4⟩ : ∃ z : kM, z = va_up s3 27 (va_up (s3 27) 31 ((s3 27 31) + 1)) := ⟨_, rfl⟩
        refine k_put (ty := .int) (ws' := wC ad kc nn s4) (ci := 8) (C := R_M) (T := T_M) (N := 32) hx hb hts (fun w q => gG_in (inG_M w q)) ty_M tk_M nm_M hown hK hW 27 rfl rfl 31 (by decide) (hts _ (gG_in mw_778)) rfl (by decide +kernel) rfl rfl (Nat.le_of_ble_eq_true rfl) (by rw [es4]; exact wC_p27_31 ..) dM_row_98 (fun H locs hW => ?_)
        have h := h s4 es4
        refine lv_iconst (v := iI 1) hx hb dM_row_101 rfl ?_
        exact k_zret hx hb hr hlocks hW dM_row_102 (by decide) h
      · have h := hf c2
        refine lv_iconst (v := iI 0) hx hb dM_row_69 rfl ?_
        exact k_zret hx hb hr hlocks hW dM_row_70 (by decide) h
  obtain ⟨ht, hf⟩ := h
  refine ki_if_eq (tgt := 49) hx hb dM_row_9 (by decide) q1 (fun c3 => ?_) (fun c3 => ?_)
  · have h := ht c3
    refine lv_iconst (v := iI 1) hx hb dM_row_49 rfl ?_
    exact jW1 1 _ _ ls hW (lv_sub hl [0, 1, 2] rfl) h
  · have h := hf c3
    refine lv_aload_n hx hb dM_row_12 rfl (lv_at hl 0 rfl) ?_
    refine k_get (ci := 8) (C := R_M) (T := T_M) (N := 32) hx hb hts (fun w q => gG_in (inG_M w q)) hown hK hW.1 27 rfl rfl 31 (by decide) (hts _ (gG_in mw_778)) rfl dM_row_13 ?_
    obtain ⟨q6, h⟩ := h
    obtain ⟨ht, hf⟩ := h
    refine ki_if_eq (tgt := 34) hx hb dM_row_16 (by decide) q6 (fun c4 => ?_) (fun c4 => ?_)
    · have h := ht c4
      refine lv_iload_n hx hb dM_row_34 rfl (lv_at hl 2 rfl) ?_
      refine lv_bipush (v := iI (-100)) hx hb dM_row_35 (by decide) ?_
      refine lv_bipush (v := iI 100) hx hb dM_row_37 (by decide) ?_
      obtain ⟨P2, g2, h⟩ := h
      refine kc_sp (As := [.int (iI p1), .int (iI (-100)), .int (iI 100)]) (rest := [.ref (ad 27)]) S (c_M_isIn l dC dI (tyC kc) (wC ad kc nn) nn σ p1 (-100) 100 g2) (cwS 3 hts (gS mw_852 mw_853 mw_10 k_M_isIn) rfl rfl rfl (by decide +kernel) ⟨Nat.le_of_ble_eq_true rfl, Nat.le_of_ble_eq_true rfl⟩) hK hN hW.1 rfl hl.1 rfl (Nat.le_of_ble_eq_true rfl) dM_row_39 ⟨Nat.zero_le _, Nat.zero_le _⟩ (fun r2 hp => ?_)
      have h := h r2 hp
      obtain ⟨q7, h⟩ := h
      obtain ⟨ht, hf⟩ := h
      refine ki_if_eq (tgt := 49) hx hb dM_row_42 (by decide) q7 (fun c5 => ?_) (fun c5 => ?_)
      · have h := ht c5
        refine lv_iconst (v := iI 1) hx hb dM_row_49 rfl ?_
        exact jW1 1 _ _ ls hW (lv_sub hl [0, 1, 2] rfl) h
      · have h := hf c5
        refine lv_iconst (v := iI 0) hx hb dM_row_45 rfl ?_
        refine lv_goto (tgt := 50) hx hb dM_row_46 (by decide) ?_
        exact jW1 0 _ _ ls hW (lv_sub hl [0, 1, 2] rfl) h
    · have h := hf c4
      refine lv_iload_n hx hb dM_row_19 rfl (lv_at hl 1 rfl) ?_
      refine lv_aload_n hx hb dM_row_20 rfl (lv_at hl 0 rfl) ?_
      refine k_get (ci := 8) (C := R_M) (T := T_M) (N := 32) hx hb hts (fun w q => gG_in (inG_M w q)) hown hK hW.1 27 rfl rfl 29 (by decide) (hts _ (gG_in mw_776)) rfl dM_row_21 ?_
      refine lv_aload_n hx hb dM_row_24 rfl (lv_at hl 0 rfl) ?_
      refine k_get (ci := 8) (C := R_M) (T := T_M) (N := 32) hx hb hts (fun w q => gG_in (inG_M w q)) hown hK hW.1 27 rfl rfl 31 (by decide) (hts _ (gG_in mw_778)) rfl dM_row_25 ?_
      refine lv_iconst (v := iI 1) hx hb dM_row_28 rfl ?_
      refine ki_sub hx hb dM_row_29 ?_
      obtain ⟨q8, h⟩ := h
      refine k_iald hx hb hK hW.1 42 33 (σ 42) rfl rfl q8 dM_row_30 ?_
      obtain ⟨q9, h⟩ := h
      obtain ⟨q10, h⟩ := h
      obtain ⟨ht, hf⟩ := h
      refine ki_icmp_ge (tgt := 49) hx hb dM_row_31 (by decide) q9 q10 (fun c6 => ?_) (fun c6 => ?_)
      · have h := ht c6
        refine lv_iconst (v := iI 1) hx hb dM_row_49 rfl ?_
        exact jW1 1 _ _ ls hW (lv_sub hl [0, 1, 2] rfl) h
      · have h := hf c6
        refine lv_iload_n hx hb dM_row_34 rfl (lv_at hl 2 rfl) ?_
        refine lv_bipush (v := iI (-100)) hx hb dM_row_35 (by decide) ?_
        refine lv_bipush (v := iI 100) hx hb dM_row_37 (by decide) ?_
        obtain ⟨P3, g3, h⟩ := h
        refine kc_sp (As := [.int (iI p1), .int (iI (-100)), .int (iI 100)]) (rest := [.ref (ad 27)]) S (c_M_isIn l dC dI (tyC kc) (wC ad kc nn) nn σ p1 (-100) 100 g3) (cwS 3 hts (gS mw_852 mw_853 mw_10 k_M_isIn) rfl rfl rfl (by decide +kernel) ⟨Nat.le_of_ble_eq_true rfl, Nat.le_of_ble_eq_true rfl⟩) hK hN hW.1 rfl hl.1 rfl (Nat.le_of_ble_eq_true rfl) dM_row_39 ⟨Nat.zero_le _, Nat.zero_le _⟩ (fun r3 hp => ?_)
        have h := h r3 hp
        obtain ⟨q11, h⟩ := h
        obtain ⟨ht, hf⟩ := h
        refine ki_if_eq (tgt := 49) hx hb dM_row_42 (by decide) q11 (fun c7 => ?_) (fun c7 => ?_)
        · have h := ht c7
          refine lv_iconst (v := iI 1) hx hb dM_row_49 rfl ?_
          exact jW1 1 _ _ ls hW (lv_sub hl [0, 1, 2] rfl) h
        · have h := hf c7
          refine lv_iconst (v := iI 0) hx hb dM_row_45 rfl ?_
          refine lv_goto (tgt := 50) hx hb dM_row_46 (by decide) ?_
          exact jW1 0 _ _ ls hW (lv_sub hl [0, 1, 2] rfl) h
abbrev rm_M_knife : Room := { frames := 1, cells := 0, slots := 0, locals := 22 }
set_option maxHeartbeats 4000000 in
set_option maxRecDepth 100000 in
theorem c_M_knife (l : Launch) (dC : Nat → ClassId) (dI : Nat → Nat → Nat) (ad : Nat → Nat) (kc : Nat → ClassId) (nn : Nat → Nat) (σ : kM) (p0 : Int) {P : Int → kM → Prop} (h : wp_M_knife nn σ p0 P) : kMi l y_M_knife ws_M_knife rm_M_knife (dC, dI) vwC (tyC kc) (wC ad kc nn) nsG σ [.ref (ad 27), .int (iI p0)] P := by
  intro sz
  refine k_enter (cc := b_M_knife) (maxL := 4) (ret := (some .int)) (by decide) rfl (Nat.le_of_ble_eq_true rfl) ?_
  intro p e s m below meth c ls S hr hlocks hsz hA hW hK hN hl
  generalize va_A ((wC ad kc nn) σ) sz = A at hA hW ⊢
  generalize ([.ref (ad 27), .int (iI p0)] : List Value).toArray = args at S ⊢
  obtain ⟨hx, hb, hml, hown, hts⟩ := id S
  have hl : lv_has ls 4 [(0, .ref (ad 27)), (1, .int (iI p0))] := hl
  unfold wp_M_knife at h
  refine lv_aload_n hx hb dM_knife_0 rfl (lv_at hl 0 rfl) ?_
  refine lv_iload_n hx hb dM_knife_1 rfl (lv_at hl 1 rfl) ?_
  refine lv_iconst (v := iI 0) hx hb dM_knife_2 rfl ?_
  refine lv_sipush (v := iI 1000) hx hb dM_knife_3 (by decide) ?_
  obtain ⟨P1, g1, h⟩ := h
  refine kc_sp (As := [.int (iI p0), .int (iI 0), .int (iI 1000)]) (rest := [.ref (ad 27)]) S (c_M_isIn l dC dI (tyC kc) (wC ad kc nn) nn σ p0 0 1000 g1) (cwS 3 hts (gS mw_852 mw_853 mw_10 k_M_isIn) rfl rfl rfl (by decide +kernel) ⟨Nat.le_of_ble_eq_true rfl, Nat.le_of_ble_eq_true rfl⟩) hK hN hW.1 rfl hl.1 rfl (Nat.le_of_ble_eq_true rfl) dM_knife_6 ⟨Nat.zero_le _, Nat.zero_le _⟩ (fun r1 hp => ?_)
  have h := h r1 hp
  obtain ⟨q1, h⟩ := h
  have jW1 : ∀ (v1 : Int) (H : Heap) (locs : List Loc) (ls : Array Slot), kW (dC, dI) vwC A s.heap (wC ad kc nn σ) H locs → lv_has ls 4 [(0, .ref (ad 27)), (1, .int (iI p0))] → jn_M_knife_17 nn p0 σ P v1 → W p l e (headSpec ws_M_knife rm_M_knife).room s m args below meth c H locs 0 0 (MQ below (kQi (dC, dI) vwC (wC ad kc nn) P A) args s 0 0 A) (F0 m 17 ls [.int (iI v1), .ref (ad 27)]) := by
    intro v1 H locs ls hW hl h
    unfold jn_M_knife_17 at h
    obtain ⟨s1, es1⟩ : ∃ z : kM, z = va_up σ 27 (va_up (σ 27) 0 v1) := ⟨_, rfl⟩
    refine k_put (ty := .int) (ws' := wC ad kc nn s1) (ci := 8) (C := R_M) (T := T_M) (N := 32) hx hb hts (fun w q => gG_in (inG_M w q)) ty_M tk_M nm_M hown hK hW 27 rfl rfl 0 (by decide) (hts _ (gG_in mw_747)) rfl (by decide +kernel) rfl rfl (Nat.le_of_ble_eq_true rfl) (by rw [es1]; exact wC_p27_0 ..) dM_knife_17 (fun H locs hW => ?_)
    have h := h s1 es1
    refine lv_iconst (v := iI (-1)) hx hb dM_knife_20 rfl ?_
    refine lv_istore_n (lv' := [(2, .int (iI (-1))), (0, .ref (ad 27)), (1, .int (iI p0))]) hx hb dM_knife_21 rfl hl (by decide) rfl (fun ls hl => ?_)
    refine lv_iconst (v := iI 0) hx hb dM_knife_22 rfl ?_
    refine lv_istore_n (lv' := [(3, .int (iI 0)), (2, .int (iI (-1))), (0, .ref (ad 27)), (1, .int (iI p0))]) hx hb dM_knife_23 rfl hl (by decide) rfl (fun ls hl => ?_)
    obtain ⟨Pe1, k1, h, hk1⟩ := h
    have xW1 : ∀ (v4 : Int) (v5 : Int) (H : Heap) (locs : List Loc) (ls : Array Slot), kW (dC, dI) vwC A s.heap (wC ad kc nn s1) H locs → lv_has ls 4 [(2, .int (iI v5)), (0, .ref (ad 27))] → Pe1 v4 v5 → W p l e (headSpec ws_M_knife rm_M_knife).room s m args below meth c H locs 0 0 (MQ below (kQi (dC, dI) vwC (wC ad kc nn) P A) args s 0 0 A) (F0 m 70 ls []) := by
      intro v4 v5 H locs ls hW hl h
      have h := hk1 v4 v5 h
      refine lv_aload_n hx hb dM_knife_70 rfl (lv_at hl 1 rfl) ?_
      refine k_get (ci := 8) (C := R_M) (T := T_M) (N := 32) hx hb hts (fun w q => gG_in (inG_M w q)) hown hK hW.1 27 rfl rfl 0 (by decide) (hts _ (gG_in mw_747)) rfl dM_knife_71 ?_
      obtain ⟨q2, h⟩ := h
      obtain ⟨ht, hf⟩ := h
      refine ki_if_le (tgt := 81) hx hb dM_knife_74 (by decide) q2 (fun c1 => ?_) (fun c1 => ?_)
      · have h := ht c1
        refine lv_iload_n hx hb dM_knife_81 rfl (lv_at hl 0 rfl) ?_
        exact k_iret hx hb hr hlocks hW dM_knife_82 h
      · have h := hf c1
        refine lv_iconst (v := iI 0) hx hb dM_knife_77 rfl ?_
        refine lv_goto (tgt := 82) hx hb dM_knife_78 (by decide) ?_
        exact k_iret hx hb hr hlocks hW dM_knife_82 h
    have lW1 : ∀ (ki1 : Nat) (v2 : Int) (v3 : Int) (H : Heap) (locs : List Loc) (ls : Array Slot), kW (dC, dI) vwC A s.heap (wC ad kc nn s1) H locs → lv_has ls 4 [(3, .int (iI v2)), (2, .int (iI v3)), (0, .ref (ad 27)), (1, .int (iI p0))] → lp_M_knife_24 nn p0 s1 Pe1 ki1 v2 v3 → W p l e (headSpec ws_M_knife rm_M_knife).room s m args below meth c H locs 0 0 (MQ below (kQi (dC, dI) vwC (wC ad kc nn) P A) args s 0 0 A) (F0 m 24 ls []) := by
      intro ki1
      induction ki1 with
      | zero => intro v2 v3 H locs ls hW hl h; exact h.elim
      | succ ki1 ih1 =>
        intro v2 v3 H locs ls hW hl h
        have h : lpB_M_knife_24 nn p0 s1 Pe1 (lp_M_knife_24 nn p0 s1 Pe1 ki1) v2 v3 := h
        unfold lpB_M_knife_24 at h
        refine lv_iload_n hx hb dM_knife_24 rfl (lv_at hl 0 rfl) ?_
        refine lv_aload_n hx hb dM_knife_25 rfl (lv_at hl 2 rfl) ?_
        refine k_get (ci := 8) (C := R_M) (T := T_M) (N := 32) hx hb hts (fun w q => gG_in (inG_M w q)) hown hK hW.1 27 rfl rfl 31 (by decide) (hts _ (gG_in mw_778)) rfl dM_knife_26 ?_
        obtain ⟨q3, h⟩ := h
        obtain ⟨q4, h⟩ := h
        obtain ⟨ht, hf⟩ := h
        refine ki_icmp_ge (tgt := 70) hx hb dM_knife_29 (by decide) q3 q4 (fun c2 => ?_) (fun c2 => ?_)
        · have h := ht c2
          exact xW1 v2 v3 _ _ ls hW (lv_sub hl [1, 2] rfl) h
        · have h := hf c2
          refine lv_aload_n hx hb dM_knife_32 rfl (lv_at hl 2 rfl) ?_
          refine k_get (ci := 8) (C := R_M) (T := T_M) (N := 32) hx hb hts (fun w q => gG_in (inG_M w q)) hown hK hW.1 27 rfl rfl 0 (by decide) (hts _ (gG_in mw_747)) rfl dM_knife_33 ?_
          obtain ⟨q5, h⟩ := h
          obtain ⟨ht, hf⟩ := h
          refine ki_if_ne (tgt := 70) hx hb dM_knife_36 (by decide) q5 (fun c3 => ?_) (fun c3 => ?_)
          · have h := ht c3
            exact xW1 v2 v3 _ _ ls hW (lv_sub hl [1, 2] rfl) h
          · have h := hf c3
            refine lv_aload_n hx hb dM_knife_39 rfl (lv_at hl 2 rfl) ?_
            refine k_get (ci := 8) (C := R_M) (T := T_M) (N := 32) hx hb hts (fun w q => gG_in (inG_M w q)) hown hK hW.1 27 rfl rfl 29 (by decide) (hts _ (gG_in mw_776)) rfl dM_knife_40 ?_
            refine lv_iload_n hx hb dM_knife_43 rfl (lv_at hl 0 rfl) ?_
            obtain ⟨q6, h⟩ := h
            refine k_iald hx hb hK hW.1 42 33 (s1 42) rfl rfl q6 dM_knife_44 ?_
            refine lv_iload_n hx hb dM_knife_45 rfl (lv_at hl 3 rfl) ?_
            obtain ⟨q7, h⟩ := h
            obtain ⟨q8, h⟩ := h
            obtain ⟨ht, hf⟩ := h
            refine ki_icmp_lt (tgt := 62) hx hb dM_knife_46 (by decide) q7 q8 (fun c4 => ?_) (fun c4 => ?_)
            · have h := ht c4
              refine lv_iload_n hx hb dM_knife_62 rfl (lv_at hl 1 rfl) ?_
              refine lv_istore_n (lv' := [(2, .int (iI v3)), (3, .int (iI v2)), (0, .ref (ad 27)), (1, .int (iI p0))]) hx hb dM_knife_63 rfl hl (by decide) rfl (fun ls hl => ?_)
              obtain ⟨v6, ev6⟩ : ∃ z : Int, z = v2 + 1 := ⟨_, rfl⟩
              refine lv_iinc (v := iI v6) (lv' := [(3, .int (iI v6)), (2, .int (iI v3)), (0, .ref (ad 27)), (1, .int (iI p0))]) hx hb dM_knife_64 hl (k := 1) rfl (by rw [ev6, ← iI_add]; rfl) (by decide) rfl (fun ls hl => ?_)
              have h := h v6 ev6
              refine lv_goto (tgt := 24) hx hb dM_knife_67 (by decide) ?_
              exact ih1 v6 v3 _ _ ls hW (lv_sub hl [0, 1, 2, 3] rfl) h
            · have h := hf c4
              refine lv_sipush (v := iI 1000) hx hb dM_knife_49 (by decide) ?_
              refine lv_aload_n hx hb dM_knife_52 rfl (lv_at hl 2 rfl) ?_
              refine k_get (ci := 8) (C := R_M) (T := T_M) (N := 32) hx hb hts (fun w q => gG_in (inG_M w q)) hown hK hW.1 27 rfl rfl 30 (by decide) (hts _ (gG_in mw_777)) rfl dM_knife_53 ?_
              refine lv_iload_n hx hb dM_knife_56 rfl (lv_at hl 0 rfl) ?_
              obtain ⟨q9, h⟩ := h
              refine k_iald hx hb hK hW.1 43 34 (s1 43) rfl rfl q9 dM_knife_57 ?_
              refine ki_add hx hb dM_knife_58 ?_
              refine lv_goto (tgt := 63) hx hb dM_knife_59 (by decide) ?_
              refine ki_nm (fun v7 ev7 => ?_)
              have h := h v7 ev7
              refine lv_istore_n (lv' := [(2, .int (iI v7)), (3, .int (iI v2)), (0, .ref (ad 27)), (1, .int (iI p0))]) hx hb dM_knife_63 rfl hl (by decide) rfl (fun ls hl => ?_)
              obtain ⟨v8, ev8⟩ : ∃ z : Int, z = v2 + 1 := ⟨_, rfl⟩
              refine lv_iinc (v := iI v8) (lv' := [(3, .int (iI v8)), (2, .int (iI v7)), (0, .ref (ad 27)), (1, .int (iI p0))]) hx hb dM_knife_64 hl (k := 1) rfl (by rw [ev8, ← iI_add]; rfl) (by decide) rfl (fun ls hl => ?_)
              have h := h v8 ev8
              refine lv_goto (tgt := 24) hx hb dM_knife_67 (by decide) ?_
              exact ih1 v8 v7 _ _ ls hW (lv_sub hl [0, 1, 2, 3] rfl) h
    exact lW1 k1 0 (-1) _ _ ls hW (lv_sub hl [0, 1, 2, 3] rfl) h
  obtain ⟨ht, hf⟩ := h
  refine ki_if_eq (tgt := 16) hx hb dM_knife_9 (by decide) q1 (fun c5 => ?_) (fun c5 => ?_)
  · have h := ht c5
    refine lv_iconst (v := iI 1) hx hb dM_knife_16 rfl ?_
    exact jW1 1 _ _ ls hW (lv_sub hl [0, 1] rfl) h
  · have h := hf c5
    refine lv_iconst (v := iI 0) hx hb dM_knife_12 rfl ?_
    refine lv_goto (tgt := 17) hx hb dM_knife_13 (by decide) ?_
    exact jW1 0 _ _ ls hW (lv_sub hl [0, 1] rfl) h
