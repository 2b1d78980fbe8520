abbrev rm_M_leaf : Room := { frames := 1, cells := 0, slots := 0, locals := 22 }
set_option maxHeartbeats 4000000 in
set_option maxRecDepth 100000 in
theorem c_M_leaf (l : Launch) (dC : Nat → ClassId) (dI : Nat → Nat → Nat) (ad : Nat → Nat) (kc : Nat → ClassId) (nn : Nat → Nat) (σ : kM) (p0 : Int) (p1 : Int) {P : Int → kM → Prop} (h : wp_M_leaf nn σ p0 p1 P) : kMi l y_M_leaf ws_M_leaf rm_M_leaf (dC, dI) vwC (tyC kc) (wC ad kc nn) nsG σ [.ref (ad 27), .int (iI p0), .int (iI p1)] P := by
  intro sz
  refine k_enter (cc := b_M_leaf) (maxL := 3) (ret := (some .int)) (by decide) rfl (Nat.le_of_ble_eq_true rfl) ?_
  intro p e s m below meth c ls S hr hlocks hsz hA hW hK hN hl
  generalize va_A ((wC ad kc nn) σ) sz = A at hA hW ⊢
  generalize ([.ref (ad 27), .int (iI p0), .int (iI p1)] : List Value).toArray = args at S ⊢
  obtain ⟨hx, hb, hml, hown, hts⟩ := id S
  have hl : lv_has ls 3 [(0, .ref (ad 27)), (1, .int (iI p0)), (2, .int (iI p1))] := hl
  unfold wp_M_leaf at h
  refine lv_aload_n hx hb dM_leaf_0 rfl (lv_at hl 0 rfl) ?_
  refine lv_iload_n hx hb dM_leaf_1 rfl (lv_at hl 1 rfl) ?_
  refine lv_iconst (v := iI 1) hx hb dM_leaf_2 rfl ?_
  refine lv_sipush (v := iI 500) hx hb dM_leaf_3 (by decide) ?_
  obtain ⟨P1, g1, h⟩ := h
  refine kc_sp (As := [.int (iI p0), .int (iI 1), .int (iI 500)]) (rest := [.ref (ad 27)]) S (c_M_isIn l dC dI (tyC kc) (wC ad kc nn) nn σ p0 1 500 g1) (cwS 3 hts (gS mw_852 mw_853 mw_10 k_M_isIn) rfl rfl rfl (by decide +kernel) ⟨Nat.le_of_ble_eq_true rfl, Nat.le_of_ble_eq_true rfl⟩) hK hN hW.1 rfl hl.1 rfl (Nat.le_of_ble_eq_true rfl) dM_leaf_6 ⟨Nat.zero_le _, Nat.zero_le _⟩ (fun r1 hp => ?_)
  have h := h r1 hp
  obtain ⟨q1, h⟩ := h
  have jW1 : ∀ (v1 : Int) (H : Heap) (locs : List Loc) (ls : Array Slot), kW (dC, dI) vwC A s.heap (wC ad kc nn σ) H locs → lv_has ls 3 [(0, .ref (ad 27)), (1, .int (iI p0)), (2, .int (iI p1))] → jn_M_leaf_40 nn p0 p1 σ P v1 → W p l e (headSpec ws_M_leaf rm_M_leaf).room s m args below meth c H locs 0 0 (MQ below (kQi (dC, dI) vwC (wC ad kc nn) P A) args s 0 0 A) (F0 m 40 ls [.int (iI v1), .ref (ad 27)]) := by
    intro v1 H locs ls hW hl h
    unfold jn_M_leaf_40 at h
    obtain ⟨s1, es1⟩ : ∃ z : kM, z = va_up σ 27 (va_up (σ 27) 0 v1) := ⟨_, rfl⟩
    refine k_put (ty := .int) (ws' := wC ad kc nn s1) (ci := 8) (C := R_M) (T := T_M) (N := 32) hx hb hts (fun w q => gG_in (inG_M w q)) ty_M tk_M nm_M hown hK hW 27 rfl rfl 0 (by decide) (hts _ (gG_in mw_747)) rfl (by decide +kernel) rfl rfl (Nat.le_of_ble_eq_true rfl) (by rw [es1]; exact wC_p27_0 ..) dM_leaf_40 (fun H locs hW => ?_)
    have h := h s1 es1
    refine lv_aload_n hx hb dM_leaf_43 rfl (lv_at hl 0 rfl) ?_
    refine k_get (ci := 8) (C := R_M) (T := T_M) (N := 32) hx hb hts (fun w q => gG_in (inG_M w q)) hown hK hW.1 27 rfl rfl 0 (by decide) (hts _ (gG_in mw_747)) rfl dM_leaf_44 ?_
    obtain ⟨q2, h⟩ := h
    obtain ⟨ht, hf⟩ := h
    refine ki_if_le (tgt := 52) hx hb dM_leaf_47 (by decide) q2 (fun c1 => ?_) (fun c1 => ?_)
    · have h := ht c1
      refine lv_aload_n hx hb dM_leaf_52 rfl (lv_at hl 0 rfl) ?_
      refine k_get (ci := 8) (C := R_M) (T := T_M) (N := 32) hx hb hts (fun w q => gG_in (inG_M w q)) hown hK hW.1 27 rfl rfl 17 (by decide) (hts _ (gG_in mw_764)) rfl dM_leaf_53 ?_
      refine lv_aload_n hx hb dM_leaf_56 rfl (lv_at hl 0 rfl) ?_
      refine k_get (ci := 8) (C := R_M) (T := T_M) (N := 32) hx hb hts (fun w q => gG_in (inG_M w q)) hown hK hW.1 27 rfl rfl 20 (by decide) (hts _ (gG_in mw_767)) rfl dM_leaf_57 ?_
      refine lv_iload_n hx hb dM_leaf_60 rfl (lv_at hl 1 rfl) ?_
      obtain ⟨q3, h⟩ := h
      obtain ⟨s2, es2⟩ : ∃ z : kM, z = va_up s1 34 (va_up (s1 34) (s1 27 20).toNat p0) := ⟨_, rfl⟩
      refine k_iast (ws' := wC ad kc nn s2) hx hb hK hW 34 25 (s1 34) rfl rfl q3 (by rw [es2]; exact wC_a34 ..) dM_leaf_61 (fun H locs hW => ?_)
      have h := h s2 es2
      refine lv_aload_n hx hb dM_leaf_62 rfl (lv_at hl 0 rfl) ?_
      refine k_get (ci := 8) (C := R_M) (T := T_M) (N := 32) hx hb hts (fun w q => gG_in (inG_M w q)) hown hK hW.1 27 rfl rfl 18 (by decide) (hts _ (gG_in mw_765)) rfl dM_leaf_63 ?_
      refine lv_aload_n hx hb dM_leaf_66 rfl (lv_at hl 0 rfl) ?_
      refine k_get (ci := 8) (C := R_M) (T := T_M) (N := 32) hx hb hts (fun w q => gG_in (inG_M w q)) hown hK hW.1 27 rfl rfl 20 (by decide) (hts _ (gG_in mw_767)) rfl dM_leaf_67 ?_
      refine lv_iload_n hx hb dM_leaf_70 rfl (lv_at hl 2 rfl) ?_
      obtain ⟨q4, h⟩ := h
      obtain ⟨s3, es3⟩ : ∃ z : kM, z = va_up s2 35 (va_up (s2 35) (s2 27 20).toNat p1) := ⟨_, rfl⟩
      refine k_iast (ws' := wC ad kc nn s3) hx hb hK hW 35 26 (s2 35) rfl rfl q4 (by rw [es3]; exact wC_a35 ..) dM_leaf_71 (fun H locs hW => ?_)
      have h := h s3 es3
      refine lv_aload_n hx hb dM_leaf_72 rfl (lv_at hl 0 rfl) ?_
      refine lv_dup hx hb dM_leaf_73 rfl ?_
      refine k_get (ci := 8) (C := R_M) (T := T_M) (N := 32) hx hb hts (fun w q => gG_in (inG_M w q)) hown hK hW.1 27 rfl rfl 20 (by decide) (hts _ (gG_in mw_767)) rfl dM_leaf_74 ?_
      refine lv_iconst (v := iI 1) hx hb dM_leaf_77 rfl ?_
      refine ki_add hx hb dM_leaf_78 ?_
      obtain ⟨s4, es4⟩ : ∃ z : kM, z = va_up s3 27 (va_up (s3 27) 20 ((s3 27 20) + 1)) := ⟨_, rfl⟩
      refine k_put (ty := .int) (ws' := wC ad kc nn s4) (ci := 8) (C := R_M) (T := T_M) (N := 32) hx hb hts (fun w q => gG_in (inG_M w q)) ty_M tk_M nm_M hown hK hW 27 rfl rfl 20 (by decide) (hts _ (gG_in mw_767)) rfl (by decide +kernel) rfl rfl (Nat.le_of_ble_eq_true rfl) (by rw [es4]; exact wC_p27_20 ..) dM_leaf_79 (fun H locs hW => ?_)
      have h := h s4 es4
      refine lv_aload_n hx hb dM_leaf_82 rfl (lv_at hl 0 rfl) ?_
      refine lv_iconst (v := iI 0) hx hb dM_leaf_83 rfl ?_
      obtain ⟨s5, es5⟩ : ∃ z : kM, z = va_up s4 27 (va_up (s4 27) 21 0) := ⟨_, rfl⟩
      refine k_put (ty := .boolean) (ws' := wC ad kc nn s5) (ci := 8) (C := R_M) (T := T_M) (N := 32) hx hb hts (fun w q => gG_in (inG_M w q)) ty_M tk_M nm_M hown hK hW 27 rfl rfl 21 (by decide) (hts _ (gG_in mw_768)) rfl (by decide +kernel) (narZ (by decide)) (fitZ (by decide)) (Nat.le_of_ble_eq_true rfl) (by rw [es5]; exact wC_p27_21 ..) dM_leaf_84 (fun H locs hW => ?_)
      have h := h s5 es5
      refine lv_aload_n hx hb dM_leaf_87 rfl (lv_at hl 0 rfl) ?_
      refine k_get (ci := 8) (C := R_M) (T := T_M) (N := 32) hx hb hts (fun w q => gG_in (inG_M w q)) hown hK hW.1 27 rfl rfl 20 (by decide) (hts _ (gG_in mw_767)) rfl dM_leaf_88 ?_
      refine lv_iconst (v := iI 1) hx hb dM_leaf_91 rfl ?_
      refine ki_sub hx hb dM_leaf_92 ?_
      exact k_iret hx hb hr hlocks hW dM_leaf_93 h
    · have h := hf c1
      refine lv_iconst (v := iI 0) hx hb dM_leaf_50 rfl ?_
      exact k_iret hx hb hr hlocks hW dM_leaf_51 h
  obtain ⟨ht, hf⟩ := h
  refine ki_if_eq (tgt := 22) hx hb dM_leaf_9 (by decide) q1 (fun c2 => ?_) (fun c2 => ?_)
  · have h := ht c2
    refine lv_iconst (v := iI 1) hx hb dM_leaf_22 rfl ?_
    refine lv_goto (tgt := 40) hx hb dM_leaf_23 (by decide) ?_
    exact jW1 1 _ _ ls hW (lv_sub hl [0, 1, 2] rfl) h
  · have h := hf c2
    refine lv_iload_n hx hb dM_leaf_12 rfl (lv_at hl 2 rfl) ?_
    refine lv_iconst (v := iI 0) hx hb dM_leaf_13 rfl ?_
    refine lv_ldc (v := iI 1000000) hx hb hown (hts _ (gG_in mc_877)) dM_leaf_14 ?_
    obtain ⟨P2, g2, h⟩ := h
    refine kc_sp (As := [.int (iI p1), .int (iI 0), .int (iI 1000000)]) (rest := [.ref (ad 27)]) S (c_M_isIn l dC dI (tyC kc) (wC ad kc nn) nn σ p1 0 1000000 g2) (cwS 3 hts (gS mw_852 mw_853 mw_10 k_M_isIn) rfl rfl rfl (by decide +kernel) ⟨Nat.le_of_ble_eq_true rfl, Nat.le_of_ble_eq_true rfl⟩) hK hN hW.1 rfl hl.1 rfl (Nat.le_of_ble_eq_true rfl) dM_leaf_16 ⟨Nat.zero_le _, Nat.zero_le _⟩ (fun r2 hp => ?_)
    have h := h r2 hp
    obtain ⟨q5, h⟩ := h
    obtain ⟨ht, hf⟩ := h
    refine ki_if_ne (tgt := 26) hx hb dM_leaf_19 (by decide) q5 (fun c3 => ?_) (fun c3 => ?_)
    · have h := ht c3
      refine lv_aload_n hx hb dM_leaf_26 rfl (lv_at hl 0 rfl) ?_
      refine k_get (ci := 8) (C := R_M) (T := T_M) (N := 32) hx hb hts (fun w q => gG_in (inG_M w q)) hown hK hW.1 27 rfl rfl 20 (by decide) (hts _ (gG_in mw_767)) rfl dM_leaf_27 ?_
      refine lv_bipush (v := iI 6) hx hb dM_leaf_30 (by decide) ?_
      obtain ⟨q6, h⟩ := h
      obtain ⟨ht, hf⟩ := h
      refine ki_icmp_ne (tgt := 39) hx hb dM_leaf_32 (by decide) q6 (by constructor <;> decide) (fun c4 => ?_) (fun c4 => ?_)
      · have h := ht c4
        refine lv_iconst (v := iI 0) hx hb dM_leaf_39 rfl ?_
        exact jW1 0 _ _ ls hW (lv_sub hl [0, 1, 2] rfl) h
      · have h := hf c4
        refine lv_iconst (v := iI 2) hx hb dM_leaf_35 rfl ?_
        refine lv_goto (tgt := 40) hx hb dM_leaf_36 (by decide) ?_
        exact jW1 2 _ _ ls hW (lv_sub hl [0, 1, 2] rfl) h
    · have h := hf c3
      refine lv_iconst (v := iI 1) hx hb dM_leaf_22 rfl ?_
      refine lv_goto (tgt := 40) hx hb dM_leaf_23 (by decide) ?_
      exact jW1 1 _ _ ls hW (lv_sub hl [0, 1, 2] rfl) h
abbrev rm_M_bars : Room := { frames := 1, cells := 0, slots := 0, locals := 22 }
set_option maxHeartbeats 4000000 in
set_option maxRecDepth 100000 in
theorem c_M_bars (l : Launch) (dC : Nat → ClassId) (dI : Nat → Nat → Nat) (ad : Nat → Nat) (kc : Nat → ClassId) (nn : Nat → Nat) (σ : kM) (p0 : Int) (p1 : Int) (p2 : Int) {P : Int → kM → Prop} (h : wp_M_bars nn σ p0 p1 p2 P) : kMi l y_M_bars ws_M_bars rm_M_bars (dC, dI) vwC (tyC kc) (wC ad kc nn) nsG σ [.ref (ad 27), .int (iI p0), .int (iI p1), .int (iI p2)] P := by
  intro sz
  refine k_enter (cc := b_M_bars) (maxL := 5) (ret := (some .boolean)) (by decide) rfl (Nat.le_of_ble_eq_true rfl) ?_
  intro p e s m below meth c ls S hr hlocks hsz hA hW hK hN hl
  generalize va_A ((wC ad kc nn) σ) sz = A at hA hW ⊢
  generalize ([.ref (ad 27), .int (iI p0), .int (iI p1), .int (iI p2)] : List Value).toArray = args at S ⊢
  obtain ⟨hx, hb, hml, hown, hts⟩ := id S
  have hl : lv_has ls 5 [(0, .ref (ad 27)), (1, .int (iI p0)), (2, .int (iI p1)), (3, .int (iI p2))] := hl
  unfold wp_M_bars at h
  refine lv_aload_n hx hb dM_bars_0 rfl (lv_at hl 0 rfl) ?_
  refine lv_iload_n hx hb dM_bars_1 rfl (lv_at hl 1 rfl) ?_
  refine lv_iconst (v := iI 0) hx hb dM_bars_2 rfl ?_
  refine lv_aload_n hx hb dM_bars_3 rfl (lv_at hl 0 rfl) ?_
  refine k_get (ci := 8) (C := R_M) (T := T_M) (N := 32) hx hb hts (fun w q => gG_in (inG_M w q)) hown hK hW.1 27 rfl rfl 20 (by decide) (hts _ (gG_in mw_767)) rfl dM_bars_4 ?_
  refine lv_iconst (v := iI 1) hx hb dM_bars_7 rfl ?_
  refine ki_sub hx hb dM_bars_8 ?_
  obtain ⟨P1, g1, h⟩ := h
  refine kc_sp (As := [.int (iI p0), .int (iI 0), .int (iI ((σ 27 20) - 1))]) (rest := [.ref (ad 27)]) S (c_M_isIn l dC dI (tyC kc) (wC ad kc nn) nn σ p0 0 ((σ 27 20) - 1) g1) (cwS 3 hts (gS mw_852 mw_853 mw_10 k_M_isIn) rfl rfl rfl (by decide +kernel) ⟨Nat.le_of_ble_eq_true rfl, Nat.le_of_ble_eq_true rfl⟩) hK hN hW.1 rfl hl.1 rfl (Nat.le_of_ble_eq_true rfl) dM_bars_9 ⟨Nat.zero_le _, Nat.zero_le _⟩ (fun r1 hp => ?_)
  have h := h r1 hp
  obtain ⟨q1, h⟩ := h
  have jW4 : ∀ (v1 : Int) (H : Heap) (locs : List Loc) (ls : Array Slot), kW (dC, dI) vwC A s.heap (wC ad kc nn σ) H locs → lv_has ls 5 [(0, .ref (ad 27)), (1, .int (iI p0)), (2, .int (iI p1)), (3, .int (iI p2))] → jn_M_bars_29 nn p0 p1 p2 σ P v1 → W p l e (headSpec ws_M_bars rm_M_bars).room s m args below meth c H locs 0 0 (MQ below (kQi (dC, dI) vwC (wC ad kc nn) P A) args s 0 0 A) (F0 m 29 ls [.int (iI v1), .ref (ad 27)]) := by
    intro v1 H locs ls hW hl h
    unfold jn_M_bars_29 at h
    obtain ⟨s1, es1⟩ : ∃ z : kM, z = va_up σ 27 (va_up (σ 27) 0 v1) := ⟨_, rfl⟩
    refine k_put (ty := .int) (ws' := wC ad kc nn s1) (ci := 8) (C := R_M) (T := T_M) (N := 32) hx hb hts (fun w q => gG_in (inG_M w q)) ty_M tk_M nm_M hown hK hW 27 rfl rfl 0 (by decide) (hts _ (gG_in mw_747)) rfl (by decide +kernel) rfl rfl (Nat.le_of_ble_eq_true rfl) (by rw [es1]; exact wC_p27_0 ..) dM_bars_29 (fun H locs hW => ?_)
    have h := h s1 es1
    refine lv_aload_n hx hb dM_bars_32 rfl (lv_at hl 0 rfl) ?_
    refine k_get (ci := 8) (C := R_M) (T := T_M) (N := 32) hx hb hts (fun w q => gG_in (inG_M w q)) hown hK hW.1 27 rfl rfl 0 (by decide) (hts _ (gG_in mw_747)) rfl dM_bars_33 ?_
    obtain ⟨q2, h⟩ := h
    obtain ⟨ht, hf⟩ := h
    refine ki_if_le (tgt := 41) hx hb dM_bars_36 (by decide) q2 (fun c1 => ?_) (fun c1 => ?_)
    · have h := ht c1
      refine lv_aload_n hx hb dM_bars_41 rfl (lv_at hl 0 rfl) ?_
      refine k_get (ci := 8) (C := R_M) (T := T_M) (N := 32) hx hb hts (fun w q => gG_in (inG_M w q)) hown hK hW.1 27 rfl rfl 19 (by decide) (hts _ (gG_in mw_766)) rfl dM_bars_42 ?_
      refine lv_iload_n hx hb dM_bars_45 rfl (lv_at hl 1 rfl) ?_
      obtain ⟨q3, h⟩ := h
      refine k_iald hx hb hK hW.1 36 27 (s1 36) rfl rfl q3 dM_bars_46 ?_
      refine lv_iload_n hx hb dM_bars_47 rfl (lv_at hl 2 rfl) ?_
      refine ki_shr hx hb dM_bars_48 ?_
      refine lv_iconst (v := iI 1) hx hb dM_bars_49 rfl ?_
      refine ki_and hx hb dM_bars_50 ?_
      refine lv_iconst (v := iI 1) hx hb dM_bars_51 rfl ?_
      obtain ⟨q4, h⟩ := h
      have jW3 : ∀ (v2 : Int) (H : Heap) (locs : List Loc) (ls : Array Slot), kW (dC, dI) vwC A s.heap (wC ad kc nn s1) H locs → lv_has ls 5 [(0, .ref (ad 27)), (1, .int (iI p0)), (2, .int (iI p1)), (3, .int (iI p2))] → jn_M_bars_60 nn p0 p1 p2 P s1 v2 → W p l e (headSpec ws_M_bars rm_M_bars).room s m args below meth c H locs 0 0 (MQ below (kQi (dC, dI) vwC (wC ad kc nn) P A) args s 0 0 A) (F0 m 60 ls [.int (iI v2)]) := by
        intro v2 H locs ls hW hl h
        unfold jn_M_bars_60 at h
        refine lv_iload_n hx hb dM_bars_60 rfl (lv_at hl 3 rfl) ?_
        obtain ⟨q5, h⟩ := h
        obtain ⟨q6, h⟩ := h
        have jW2 : ∀ (v3 : Int) (H : Heap) (locs : List Loc) (ls : Array Slot), kW (dC, dI) vwC A s.heap (wC ad kc nn s1) H locs → lv_has ls 5 [(0, .ref (ad 27)), (1, .int (iI p0)), (2, .int (iI p1))] → jn_M_bars_69 nn p0 p1 P s1 v3 → W p l e (headSpec ws_M_bars rm_M_bars).room s m args below meth c H locs 0 0 (MQ below (kQi (dC, dI) vwC (wC ad kc nn) P A) args s 0 0 A) (F0 m 69 ls [.int (iI v3)]) := by
          intro v3 H locs ls hW hl h
          unfold jn_M_bars_69 at h
          refine lv_istore (lv' := [(4, .int (iI v3)), (0, .ref (ad 27)), (1, .int (iI p0)), (2, .int (iI p1))]) hx hb dM_bars_69 hl (by decide) rfl (fun ls hl => ?_)
          refine lv_aload_n hx hb dM_bars_71 rfl (lv_at hl 1 rfl) ?_
          refine k_get (ci := 8) (C := R_M) (T := T_M) (N := 32) hx hb hts (fun w q => gG_in (inG_M w q)) hown hK hW.1 27 rfl rfl 19 (by decide) (hts _ (gG_in mw_766)) rfl dM_bars_72 ?_
          refine lv_iload_n hx hb dM_bars_75 rfl (lv_at hl 2 rfl) ?_
          refine lv_iload hx hb dM_bars_76 (lv_at hl 0 rfl) ?_
          obtain ⟨q7, h⟩ := h
          have jW1 : ∀ (v4 : Int) (H : Heap) (locs : List Loc) (ls : Array Slot), kW (dC, dI) vwC A s.heap (wC ad kc nn s1) H locs → lv_has ls 5 [(4, .int (iI v3)), (0, .ref (ad 27))] → jn_M_bars_100 nn p0 P s1 v3 v4 → W p l e (headSpec ws_M_bars rm_M_bars).room s m args below meth c H locs 0 0 (MQ below (kQi (dC, dI) vwC (wC ad kc nn) P A) args s 0 0 A) (F0 m 100 ls [.int (iI v4), .int (iI p0), .ref (ad 36)]) := by
            intro v4 H locs ls hW hl h
            unfold jn_M_bars_100 at h
            obtain ⟨q8, h⟩ := h
            obtain ⟨s2, es2⟩ : ∃ z : kM, z = va_up s1 36 (va_up (s1 36) p0.toNat v4) := ⟨_, rfl⟩
            refine k_iast (ws' := wC ad kc nn s2) hx hb hK hW 36 27 (s1 36) rfl rfl q8 (by rw [es2]; exact wC_a36 ..) dM_bars_100 (fun H locs hW => ?_)
            have h := h s2 es2
            refine lv_aload_n hx hb dM_bars_101 rfl (lv_at hl 1 rfl) ?_
            refine lv_aload_n hx hb dM_bars_102 rfl (lv_at hl 1 rfl) ?_
            refine k_get (ci := 8) (C := R_M) (T := T_M) (N := 32) hx hb hts (fun w q => gG_in (inG_M w q)) hown hK hW.1 27 rfl rfl 21 (by decide) (hts _ (gG_in mw_768)) rfl dM_bars_103 ?_
            obtain ⟨q9, h⟩ := h
            obtain ⟨ht, hf⟩ := h
            refine ki_if_eq (tgt := 118) hx hb dM_bars_106 (by decide) q9 (fun c2 => ?_) (fun c2 => ?_)
            · have h := ht c2
              refine lv_iconst (v := iI 0) hx hb dM_bars_118 rfl ?_
              obtain ⟨s3, es3⟩ : ∃ z : kM, z = va_up s2 27 (va_up (s2 27) 21 0) := ⟨_, rfl⟩
              refine k_put (ty := .boolean) (ws' := wC ad kc nn s3) (ci := 8) (C := R_M) (T := T_M) (N := 32) hx hb hts (fun w q => gG_in (inG_M w q)) ty_M tk_M nm_M hown hK hW 27 rfl rfl 21 (by decide) (hts _ (gG_in mw_768)) rfl (by decide +kernel) (narZ (by decide)) (fitZ (by decide)) (Nat.le_of_ble_eq_true rfl) (by rw [es3]; exact wC_p27_21 ..) dM_bars_119 (fun H locs hW => ?_)
              have h := h s3 es3
              refine lv_iload hx hb dM_bars_122 (lv_at hl 0 rfl) ?_
              exact k_zret hx hb hr hlocks hW dM_bars_124 h.1 h.2
            · have h := hf c2
              refine lv_iload hx hb dM_bars_109 (lv_at hl 0 rfl) ?_
              obtain ⟨q10, h⟩ := h
              obtain ⟨ht, hf⟩ := h
              refine ki_if_ne (tgt := 118) hx hb dM_bars_111 (by decide) q10 (fun c3 => ?_) (fun c3 => ?_)
              · have h := ht c3
                refine lv_iconst (v := iI 0) hx hb dM_bars_118 rfl ?_
                obtain ⟨s4, es4⟩ : ∃ z : kM, z = va_up s2 27 (va_up (s2 27) 21 0) := ⟨_, rfl⟩
                refine k_put (ty := .boolean) (ws' := wC ad kc nn s4) (ci := 8) (C := R_M) (T := T_M) (N := 32) hx hb hts (fun w q => gG_in (inG_M w q)) ty_M tk_M nm_M hown hK hW 27 rfl rfl 21 (by decide) (hts _ (gG_in mw_768)) rfl (by decide +kernel) (narZ (by decide)) (fitZ (by decide)) (Nat.le_of_ble_eq_true rfl) (by rw [es4]; exact wC_p27_21 ..) dM_bars_119 (fun H locs hW => ?_)
                have h := h s4 es4
                refine lv_iload hx hb dM_bars_122 (lv_at hl 0 rfl) ?_
                exact k_zret hx hb hr hlocks hW dM_bars_124 h.1 h.2
              · have h := hf c3
                refine lv_iconst (v := iI 1) hx hb dM_bars_114 rfl ?_
                refine lv_goto (tgt := 119) hx hb dM_bars_115 (by decide) ?_
                obtain ⟨s5, es5⟩ : ∃ z : kM, z = va_up s2 27 (va_up (s2 27) 21 1) := ⟨_, rfl⟩
                refine k_put (ty := .boolean) (ws' := wC ad kc nn s5) (ci := 8) (C := R_M) (T := T_M) (N := 32) hx hb hts (fun w q => gG_in (inG_M w q)) ty_M tk_M nm_M hown hK hW 27 rfl rfl 21 (by decide) (hts _ (gG_in mw_768)) rfl (by decide +kernel) (narZ (by decide)) (fitZ (by decide)) (Nat.le_of_ble_eq_true rfl) (by rw [es5]; exact wC_p27_21 ..) dM_bars_119 (fun H locs hW => ?_)
                have h := h s5 es5
                refine lv_iload hx hb dM_bars_122 (lv_at hl 0 rfl) ?_
                exact k_zret hx hb hr hlocks hW dM_bars_124 h.1 h.2
          obtain ⟨ht, hf⟩ := h
          refine ki_if_eq (tgt := 94) hx hb dM_bars_78 (by decide) q7 (fun c4 => ?_) (fun c4 => ?_)
          · have h := ht c4
            refine lv_aload_n hx hb dM_bars_94 rfl (lv_at hl 1 rfl) ?_
            refine k_get (ci := 8) (C := R_M) (T := T_M) (N := 32) hx hb hts (fun w q => gG_in (inG_M w q)) hown hK hW.1 27 rfl rfl 19 (by decide) (hts _ (gG_in mw_766)) rfl dM_bars_95 ?_
            refine lv_iload_n hx hb dM_bars_98 rfl (lv_at hl 2 rfl) ?_
            obtain ⟨q11, h⟩ := h
            refine k_iald hx hb hK hW.1 36 27 (s1 36) rfl rfl q11 dM_bars_99 ?_
            exact jW1 (s1 36 p0.toNat) _ _ ls hW (lv_sub hl [0, 1] rfl) h
          · have h := hf c4
            refine lv_aload_n hx hb dM_bars_81 rfl (lv_at hl 1 rfl) ?_
            refine k_get (ci := 8) (C := R_M) (T := T_M) (N := 32) hx hb hts (fun w q => gG_in (inG_M w q)) hown hK hW.1 27 rfl rfl 19 (by decide) (hts _ (gG_in mw_766)) rfl dM_bars_82 ?_
            refine lv_iload_n hx hb dM_bars_85 rfl (lv_at hl 2 rfl) ?_
            obtain ⟨q12, h⟩ := h
            refine k_iald hx hb hK hW.1 36 27 (s1 36) rfl rfl q12 dM_bars_86 ?_
            refine lv_iconst (v := iI 1) hx hb dM_bars_87 rfl ?_
            refine lv_iload_n hx hb dM_bars_88 rfl (lv_at hl 3 rfl) ?_
            refine ki_shl hx hb dM_bars_89 ?_
            refine ki_xor hx hb dM_bars_90 ?_
            refine lv_goto (tgt := 100) hx hb dM_bars_91 (by decide) ?_
            exact jW1 (kXor (s1 36 p0.toNat) (kShl 1 p1)) _ _ ls hW (lv_sub hl [0, 1] rfl) h
        obtain ⟨ht, hf⟩ := h
        refine ki_icmp_eq (tgt := 68) hx hb dM_bars_61 (by decide) q5 q6 (fun c5 => ?_) (fun c5 => ?_)
        · have h := ht c5
          refine lv_iconst (v := iI 0) hx hb dM_bars_68 rfl ?_
          exact jW2 0 _ _ ls hW (lv_sub hl [0, 1, 2] rfl) h
        · have h := hf c5
          refine lv_iconst (v := iI 1) hx hb dM_bars_64 rfl ?_
          refine lv_goto (tgt := 69) hx hb dM_bars_65 (by decide) ?_
          exact jW2 1 _ _ ls hW (lv_sub hl [0, 1, 2] rfl) h
      obtain ⟨ht, hf⟩ := h
      refine ki_icmp_ne (tgt := 59) hx hb dM_bars_52 (by decide) q4 (by constructor <;> decide) (fun c6 => ?_) (fun c6 => ?_)
      · have h := ht c6
        refine lv_iconst (v := iI 0) hx hb dM_bars_59 rfl ?_
        exact jW3 0 _ _ ls hW (lv_sub hl [0, 1, 2, 3] rfl) h
      · have h := hf c6
        refine lv_iconst (v := iI 1) hx hb dM_bars_55 rfl ?_
        refine lv_goto (tgt := 60) hx hb dM_bars_56 (by decide) ?_
        exact jW3 1 _ _ ls hW (lv_sub hl [0, 1, 2, 3] rfl) h
    · have h := hf c1
      refine lv_iconst (v := iI 0) hx hb dM_bars_39 rfl ?_
      exact k_zret hx hb hr hlocks hW dM_bars_40 (by decide) h
  obtain ⟨ht, hf⟩ := h
  refine ki_if_eq (tgt := 28) hx hb dM_bars_12 (by decide) q1 (fun c7 => ?_) (fun c7 => ?_)
  · have h := ht c7
    refine lv_iconst (v := iI 1) hx hb dM_bars_28 rfl ?_
    exact jW4 1 _ _ ls hW (lv_sub hl [0, 1, 2, 3] rfl) h
  · have h := hf c7
    refine lv_iload_n hx hb dM_bars_15 rfl (lv_at hl 2 rfl) ?_
    refine lv_iconst (v := iI 0) hx hb dM_bars_16 rfl ?_
    refine lv_iconst (v := iI 3) hx hb dM_bars_17 rfl ?_
    obtain ⟨P2, g2, h⟩ := h
    refine kc_sp (As := [.int (iI p1), .int (iI 0), .int (iI 3)]) (rest := [.ref (ad 27)]) S (c_M_isIn l dC dI (tyC kc) (wC ad kc nn) nn σ p1 0 3 g2) (cwS 3 hts (gS mw_852 mw_853 mw_10 k_M_isIn) rfl rfl rfl (by decide +kernel) ⟨Nat.le_of_ble_eq_true rfl, Nat.le_of_ble_eq_true rfl⟩) hK hN hW.1 rfl hl.1 rfl (Nat.le_of_ble_eq_true rfl) dM_bars_18 ⟨Nat.zero_le _, Nat.zero_le _⟩ (fun r2 hp => ?_)
    have h := h r2 hp
    obtain ⟨q13, h⟩ := h
    obtain ⟨ht, hf⟩ := h
    refine ki_if_eq (tgt := 28) hx hb dM_bars_21 (by decide) q13 (fun c8 => ?_) (fun c8 => ?_)
    · have h := ht c8
      refine lv_iconst (v := iI 1) hx hb dM_bars_28 rfl ?_
      exact jW4 1 _ _ ls hW (lv_sub hl [0, 1, 2, 3] rfl) h
    · have h := hf c8
      refine lv_iconst (v := iI 0) hx hb dM_bars_24 rfl ?_
      refine lv_goto (tgt := 29) hx hb dM_bars_25 (by decide) ?_
      exact jW4 0 _ _ ls hW (lv_sub hl [0, 1, 2, 3] rfl) h
abbrev rm_M_fits : Room := { frames := 0, cells := 0, slots := 0, locals := 0 }
set_option maxHeartbeats 4000000 in
set_option maxRecDepth 100000 in
theorem c_M_fits (l : Launch) (dC : Nat → ClassId) (dI : Nat → Nat → Nat) (ad : Nat → Nat) (kc : Nat → ClassId) (nn : Nat → Nat) (σ : kM) (p0 : Int) (p1 : Int) {P : Int → Prop} (h : wp_M_fits nn σ p0 p1 P) : kMp l y_M_fits ws_M_fits rm_M_fits (dC, dI) vwC (tyC kc) (wC ad kc nn) nsG σ [.ref (ad 27), .int (iI p0), .int (iI p1)] P := by
  refine k_enterP (cc := b_M_fits) (maxL := 5) (ret := (some .boolean)) (by decide) rfl (Nat.le_of_ble_eq_true rfl) ?_
  intro p e s m below meth c ls S hr hlocks hP hK hN hl
  generalize ([.ref (ad 27), .int (iI p0), .int (iI p1)] : List Value).toArray = args at S ⊢
  obtain ⟨hx, hb, hml, hown, hts⟩ := id S
  have hl : lv_has ls 5 [(0, .ref (ad 27)), (1, .int (iI p0)), (2, .int (iI p1))] := hl
  unfold wp_M_fits at h
  refine lv_iload_n hx hb dM_fits_0 rfl (lv_at hl 2 rfl) ?_
  refine lv_aload_n hx hb dM_fits_1 rfl (lv_at hl 0 rfl) ?_
  refine k_get (ci := 8) (C := R_M) (T := T_M) (N := 32) hx hb hts (fun w q => gG_in (inG_M w q)) hown hK hP 27 rfl rfl 17 (by decide) (hts _ (gG_in mw_764)) rfl dM_fits_2 ?_
  refine lv_iload_n hx hb dM_fits_5 rfl (lv_at hl 1 rfl) ?_
  obtain ⟨q1, h⟩ := h
  refine k_iald hx hb hK hP 34 25 (σ 34) rfl rfl q1 dM_fits_6 ?_
  refine ki_add hx hb dM_fits_7 ?_
  refine lv_aload_n hx hb dM_fits_8 rfl (lv_at hl 0 rfl) ?_
  refine k_get (ci := 8) (C := R_M) (T := T_M) (N := 32) hx hb hts (fun w q => gG_in (inG_M w q)) hown hK hP 27 rfl rfl 22 (by decide) (hts _ (gG_in mw_769)) rfl dM_fits_9 ?_
  obtain ⟨q2, h⟩ := h
  obtain ⟨q3, h⟩ := h
  have jW1 : ∀ (v1 : Int) (ls : Array Slot), lv_has ls 5 [(0, .ref (ad 27)), (1, .int (iI p0)), (2, .int (iI p1))] → jn_M_fits_20 nn p0 p1 σ P v1 → W p l e (headSpec ws_M_fits rm_M_fits).room s m args below meth c s.heap [] 0 0 (MQ below (kQp P) args s 0 0 (fun _ => False)) (F0 m 20 ls [.int (iI v1)]) := by
    intro v1 ls hl h
    unfold jn_M_fits_20 at h
    refine lv_istore_n (lv' := [(3, .int (iI v1)), (0, .ref (ad 27)), (1, .int (iI p0)), (2, .int (iI p1))]) hx hb dM_fits_20 rfl hl (by decide) rfl (fun ls hl => ?_)
    refine lv_iload_n hx hb dM_fits_21 rfl (lv_at hl 3 rfl) ?_
    refine lv_istore (lv' := [(4, .int (iI p1)), (3, .int (iI v1)), (0, .ref (ad 27)), (1, .int (iI p0)), (2, .int (iI p1))]) hx hb dM_fits_22 hl (by decide) rfl (fun ls hl => ?_)
    obtain ⟨Pe1, k1, h, hk1⟩ := h
    have xW1 : ∀ (v4 : Int) (v5 : Int) (ls : Array Slot), lv_has ls 5 [(3, .int (iI v5))] → Pe1 v4 v5 → W p l e (headSpec ws_M_fits rm_M_fits).room s m args below meth c s.heap [] 0 0 (MQ below (kQp P) args s 0 0 (fun _ => False)) (F0 m 70 ls []) := by
      intro v4 v5 ls hl h
      have h := hk1 v4 v5 h
      refine lv_iload_n hx hb dM_fits_70 rfl (lv_at hl 0 rfl) ?_
      exact k_zretP hx hb hr hlocks dM_fits_71 h.1 h.2
    have lW1 : ∀ (ki1 : Nat) (v2 : Int) (v3 : Int) (ls : Array Slot), lv_has ls 5 [(4, .int (iI v2)), (3, .int (iI v3)), (0, .ref (ad 27)), (1, .int (iI p0)), (2, .int (iI p1))] → lp_M_fits_24 nn p0 p1 σ Pe1 ki1 v2 v3 → W p l e (headSpec ws_M_fits rm_M_fits).room s m args below meth c s.heap [] 0 0 (MQ below (kQp P) args s 0 0 (fun _ => False)) (F0 m 24 ls []) := by
      intro ki1
      induction ki1 with
      | zero => intro v2 v3 ls hl h; exact h.elim
      | succ ki1 ih1 =>
        intro v2 v3 ls hl h
        have h : lpB_M_fits_24 nn p0 p1 σ Pe1 (lp_M_fits_24 nn p0 p1 σ Pe1 ki1) v2 v3 := h
        unfold lpB_M_fits_24 at h
        refine lv_iload_n hx hb dM_fits_24 rfl (lv_at hl 1 rfl) ?_
        obtain ⟨q4, h⟩ := h
        obtain ⟨ht, hf⟩ := h
        refine ki_if_eq (tgt := 70) hx hb dM_fits_25 (by decide) q4 (fun c1 => ?_) (fun c1 => ?_)
        · have h := ht c1
          exact xW1 v2 v3 ls (lv_sub hl [1] rfl) h
        · have h := hf c1
          refine lv_iload hx hb dM_fits_28 (lv_at hl 0 rfl) ?_
          refine lv_iload_n hx hb dM_fits_30 rfl (lv_at hl 4 rfl) ?_
          refine lv_aload_n hx hb dM_fits_31 rfl (lv_at hl 2 rfl) ?_
          refine k_get (ci := 8) (C := R_M) (T := T_M) (N := 32) hx hb hts (fun w q => gG_in (inG_M w q)) hown hK hP 27 rfl rfl 17 (by decide) (hts _ (gG_in mw_764)) rfl dM_fits_32 ?_
          refine lv_iload_n hx hb dM_fits_35 rfl (lv_at hl 3 rfl) ?_
          obtain ⟨q5, h⟩ := h
          refine k_iald hx hb hK hP 34 25 (σ 34) rfl rfl q5 dM_fits_36 ?_
          refine ki_add hx hb dM_fits_37 ?_
          obtain ⟨q6, h⟩ := h
          obtain ⟨q7, h⟩ := h
          obtain ⟨ht, hf⟩ := h
          refine ki_icmp_ge (tgt := 70) hx hb dM_fits_38 (by decide) q6 q7 (fun c2 => ?_) (fun c2 => ?_)
          · have h := ht c2
            exact xW1 v2 v3 ls (lv_sub hl [1] rfl) h
          · have h := hf c2
            refine lv_aload_n hx hb dM_fits_41 rfl (lv_at hl 2 rfl) ?_
            refine k_get (ci := 8) (C := R_M) (T := T_M) (N := 32) hx hb hts (fun w q => gG_in (inG_M w q)) hown hK hP 27 rfl rfl 23 (by decide) (hts _ (gG_in mw_770)) rfl dM_fits_42 ?_
            refine lv_iload hx hb dM_fits_45 (lv_at hl 0 rfl) ?_
            obtain ⟨q8, h⟩ := h
            refine k_iald hx hb hK hP 37 28 (σ 37) rfl rfl q8 dM_fits_47 ?_
            refine lv_aload_n hx hb dM_fits_48 rfl (lv_at hl 2 rfl) ?_
            refine k_get (ci := 8) (C := R_M) (T := T_M) (N := 32) hx hb hts (fun w q => gG_in (inG_M w q)) hown hK hP 27 rfl rfl 19 (by decide) (hts _ (gG_in mw_766)) rfl dM_fits_49 ?_
            refine lv_iload_n hx hb dM_fits_52 rfl (lv_at hl 3 rfl) ?_
            obtain ⟨q9, h⟩ := h
            refine k_iald hx hb hK hP 36 27 (σ 36) rfl rfl q9 dM_fits_53 ?_
            refine ki_and hx hb dM_fits_54 ?_
            obtain ⟨q10, h⟩ := h
            obtain ⟨ht, hf⟩ := h
            refine ki_if_ne (tgt := 62) hx hb dM_fits_55 (by decide) q10 (fun c3 => ?_) (fun c3 => ?_)
            · have h := ht c3
              refine lv_iconst (v := iI 0) hx hb dM_fits_62 rfl ?_
              refine lv_istore_n (lv' := [(3, .int (iI 0)), (4, .int (iI v2)), (0, .ref (ad 27)), (1, .int (iI p0)), (2, .int (iI p1))]) hx hb dM_fits_63 rfl hl (by decide) rfl (fun ls hl => ?_)
              obtain ⟨v6, ev6⟩ : ∃ z : Int, z = v2 + 1 := ⟨_, rfl⟩
              refine lv_iinc (v := iI v6) (lv' := [(4, .int (iI v6)), (3, .int (iI 0)), (0, .ref (ad 27)), (1, .int (iI p0)), (2, .int (iI p1))]) hx hb dM_fits_64 hl (k := 1) rfl (by rw [ev6, ← iI_add]; rfl) (by decide) rfl (fun ls hl => ?_)
              have h := h v6 ev6
              refine lv_goto (tgt := 24) hx hb dM_fits_67 (by decide) ?_
              exact ih1 v6 0 ls (lv_sub hl [0, 1, 2, 3, 4] rfl) h
            · have h := hf c3
              refine lv_iconst (v := iI 1) hx hb dM_fits_58 rfl ?_
              refine lv_goto (tgt := 63) hx hb dM_fits_59 (by decide) ?_
              refine lv_istore_n (lv' := [(3, .int (iI 1)), (4, .int (iI v2)), (0, .ref (ad 27)), (1, .int (iI p0)), (2, .int (iI p1))]) hx hb dM_fits_63 rfl hl (by decide) rfl (fun ls hl => ?_)
              obtain ⟨v7, ev7⟩ : ∃ z : Int, z = v2 + 1 := ⟨_, rfl⟩
              refine lv_iinc (v := iI v7) (lv' := [(4, .int (iI v7)), (3, .int (iI 1)), (0, .ref (ad 27)), (1, .int (iI p0)), (2, .int (iI p1))]) hx hb dM_fits_64 hl (k := 1) rfl (by rw [ev7, ← iI_add]; rfl) (by decide) rfl (fun ls hl => ?_)
              have h := h v7 ev7
              refine lv_goto (tgt := 24) hx hb dM_fits_67 (by decide) ?_
              exact ih1 v7 1 ls (lv_sub hl [0, 1, 2, 3, 4] rfl) h
    exact lW1 k1 p1 v1 ls (lv_sub hl [0, 1, 2, 3, 4] rfl) h
  obtain ⟨ht, hf⟩ := h
  refine ki_icmp_gt (tgt := 19) hx hb dM_fits_12 (by decide) q2 q3 (fun c4 => ?_) (fun c4 => ?_)
  · have h := ht c4
    refine lv_iconst (v := iI 0) hx hb dM_fits_19 rfl ?_
    exact jW1 0 ls (lv_sub hl [0, 1, 2] rfl) h
  · have h := hf c4
    refine lv_iconst (v := iI 1) hx hb dM_fits_15 rfl ?_
    refine lv_goto (tgt := 20) hx hb dM_fits_16 (by decide) ?_
    exact jW1 1 ls (lv_sub hl [0, 1, 2] rfl) h
abbrev rm_M_side : Room := { frames := 0, cells := 0, slots := 0, locals := 0 }
set_option maxHeartbeats 4000000 in
set_option maxRecDepth 100000 in
theorem c_M_side (l : Launch) (dC : Nat → ClassId) (dI : Nat → Nat → Nat) (ad : Nat → Nat) (kc : Nat → ClassId) (nn : Nat → Nat) (σ : kM) (p0 : Int) (p1 : Int) {P : Int → Prop} (h : wp_M_side nn σ p0 p1 P) : kMp l y_M_side ws_M_side rm_M_side (dC, dI) vwC (tyC kc) (wC ad kc nn) nsG σ [.ref (ad 27), .int (iI p0), .int (iI p1)] P := by
  refine k_enterP (cc := b_M_side) (maxL := 6) (ret := (some .int)) (by decide) rfl (Nat.le_of_ble_eq_true rfl) ?_
  intro p e s m below meth c ls S hr hlocks hP hK hN hl
  generalize ([.ref (ad 27), .int (iI p0), .int (iI p1)] : List Value).toArray = args at S ⊢
  obtain ⟨hx, hb, hml, hown, hts⟩ := id S
  have hl : lv_has ls 6 [(0, .ref (ad 27)), (1, .int (iI p0)), (2, .int (iI p1))] := hl
  unfold wp_M_side at h
  refine lv_aload_n hx hb dM_side_0 rfl (lv_at hl 0 rfl) ?_
  refine k_get (ci := 8) (C := R_M) (T := T_M) (N := 32) hx hb hts (fun w q => gG_in (inG_M w q)) hown hK hP 27 rfl rfl 18 (by decide) (hts _ (gG_in mw_765)) rfl dM_side_1 ?_
  refine lv_iload_n hx hb dM_side_4 rfl (lv_at hl 1 rfl) ?_
  obtain ⟨q1, h⟩ := h
  refine k_iald hx hb hK hP 35 26 (σ 35) rfl rfl q1 dM_side_5 ?_
  obtain ⟨q2, h⟩ := h
  refine ki_i2l hx hb dM_side_6 q2 ?_
  refine lv_aload_n hx hb dM_side_7 rfl (lv_at hl 0 rfl) ?_
  refine k_get (ci := 8) (C := R_M) (T := T_M) (N := 32) hx hb hts (fun w q => gG_in (inG_M w q)) hown hK hP 27 rfl rfl 24 (by decide) (hts _ (gG_in mw_771)) rfl dM_side_8 ?_
  refine lv_iload_n hx hb dM_side_11 rfl (lv_at hl 2 rfl) ?_
  refine lv_aload_n hx hb dM_side_12 rfl (lv_at hl 0 rfl) ?_
  refine k_get (ci := 8) (C := R_M) (T := T_M) (N := 32) hx hb hts (fun w q => gG_in (inG_M w q)) hown hK hP 27 rfl rfl 17 (by decide) (hts _ (gG_in mw_764)) rfl dM_side_13 ?_
  refine lv_iload_n hx hb dM_side_16 rfl (lv_at hl 1 rfl) ?_
  obtain ⟨q3, h⟩ := h
  refine k_iald hx hb hK hP 34 25 (σ 34) rfl rfl q3 dM_side_17 ?_
  refine ki_add hx hb dM_side_18 ?_
  obtain ⟨q4, h⟩ := h
  refine k_lald hx hb hK hP 38 29 (σ 38) rfl rfl q4 dM_side_19 ?_
  refine kl_add hx hb dM_side_20 ?_
  refine kl_nm (fun v1 ev1 => ?_)
  have h := h v1 ev1
  refine lv_lstore_n (lv' := [(3, .long (lI v1)), (0, .ref (ad 27)), (1, .int (iI p0)), (2, .int (iI p1))]) hx hb dM_side_21 rfl hl (by decide) rfl (fun ls hl => ?_)
  refine lv_aload_n hx hb dM_side_22 rfl (lv_at hl 1 rfl) ?_
  refine k_get (ci := 8) (C := R_M) (T := T_M) (N := 32) hx hb hts (fun w q => gG_in (inG_M w q)) hown hK hP 27 rfl rfl 25 (by decide) (hts _ (gG_in mw_772)) rfl dM_side_23 ?_
  refine lv_iload_n hx hb dM_side_26 rfl (lv_at hl 3 rfl) ?_
  refine lv_aload_n hx hb dM_side_27 rfl (lv_at hl 1 rfl) ?_
  refine k_get (ci := 8) (C := R_M) (T := T_M) (N := 32) hx hb hts (fun w q => gG_in (inG_M w q)) hown hK hP 27 rfl rfl 17 (by decide) (hts _ (gG_in mw_764)) rfl dM_side_28 ?_
  refine lv_iload_n hx hb dM_side_31 rfl (lv_at hl 2 rfl) ?_
  obtain ⟨q5, h⟩ := h
  refine k_iald hx hb hK hP 34 25 (σ 34) rfl rfl q5 dM_side_32 ?_
  refine ki_add hx hb dM_side_33 ?_
  obtain ⟨q6, h⟩ := h
  refine k_iald hx hb hK hP 39 30 (σ 39) rfl rfl q6 dM_side_34 ?_
  refine ki_nm (fun v2 ev2 => ?_)
  have h := h v2 ev2
  refine lv_istore (lv' := [(5, .int (iI v2)), (3, .long (lI v1)), (0, .ref (ad 27)), (1, .int (iI p0)), (2, .int (iI p1))]) hx hb dM_side_35 hl (by decide) rfl (fun ls hl => ?_)
  refine lv_lload_n hx hb dM_side_37 rfl (lv_at hl 1 rfl) ?_
  refine lv_aload_n hx hb dM_side_38 rfl (lv_at hl 2 rfl) ?_
  refine k_get (ci := 8) (C := R_M) (T := T_M) (N := 32) hx hb hts (fun w q => gG_in (inG_M w q)) hown hK hP 27 rfl rfl 24 (by decide) (hts _ (gG_in mw_771)) rfl dM_side_39 ?_
  refine lv_iload_n hx hb dM_side_42 rfl (lv_at hl 4 rfl) ?_
  obtain ⟨q7, h⟩ := h
  refine k_lald hx hb hK hP 38 29 (σ 38) rfl rfl q7 dM_side_43 ?_
  obtain ⟨q8, h⟩ := h
  refine kl_cmp hx hb q8.1 q8.2 dM_side_44 ?_
  obtain ⟨ht, hf⟩ := h
  refine ki_if_eq (tgt := 67) hx hb dM_side_45 (by decide) (by constructor <;> (repeat' split) <;> decide) (fun c1 => ?_) (fun c1 => ?_)
  · have h := ht c1
    refine lv_iload hx hb dM_side_67 (lv_at hl 0 rfl) ?_
    refine lv_aload_n hx hb dM_side_69 rfl (lv_at hl 2 rfl) ?_
    refine k_get (ci := 8) (C := R_M) (T := T_M) (N := 32) hx hb hts (fun w q => gG_in (inG_M w q)) hown hK hP 27 rfl rfl 25 (by decide) (hts _ (gG_in mw_772)) rfl dM_side_70 ?_
    refine lv_iload_n hx hb dM_side_73 rfl (lv_at hl 4 rfl) ?_
    obtain ⟨q9, h⟩ := h
    refine k_iald hx hb hK hP 39 30 (σ 39) rfl rfl q9 dM_side_74 ?_
    obtain ⟨q10, h⟩ := h
    obtain ⟨q11, h⟩ := h
    obtain ⟨ht, hf⟩ := h
    refine ki_icmp_eq (tgt := 97) hx hb dM_side_75 (by decide) q10 q11 (fun c2 => ?_) (fun c2 => ?_)
    · have h := ht c2
      refine lv_iconst (v := iI 0) hx hb dM_side_97 rfl ?_
      exact k_iretP hx hb hr hlocks dM_side_98 h
    · have h := hf c2
      refine lv_iload hx hb dM_side_78 (lv_at hl 0 rfl) ?_
      refine lv_aload_n hx hb dM_side_80 rfl (lv_at hl 2 rfl) ?_
      refine k_get (ci := 8) (C := R_M) (T := T_M) (N := 32) hx hb hts (fun w q => gG_in (inG_M w q)) hown hK hP 27 rfl rfl 25 (by decide) (hts _ (gG_in mw_772)) rfl dM_side_81 ?_
      refine lv_iload_n hx hb dM_side_84 rfl (lv_at hl 4 rfl) ?_
      obtain ⟨q12, h⟩ := h
      refine k_iald hx hb hK hP 39 30 (σ 39) rfl rfl q12 dM_side_85 ?_
      obtain ⟨q13, h⟩ := h
      obtain ⟨q14, h⟩ := h
      obtain ⟨ht, hf⟩ := h
      refine ki_icmp_ge (tgt := 93) hx hb dM_side_86 (by decide) q13 q14 (fun c3 => ?_) (fun c3 => ?_)
      · have h := ht c3
        refine lv_iconst (v := iI (-1)) hx hb dM_side_93 rfl ?_
        refine lv_goto (tgt := 98) hx hb dM_side_94 (by decide) ?_
        exact k_iretP hx hb hr hlocks dM_side_98 h
      · have h := hf c3
        refine lv_iconst (v := iI 1) hx hb dM_side_89 rfl ?_
        refine lv_goto (tgt := 98) hx hb dM_side_90 (by decide) ?_
        exact k_iretP hx hb hr hlocks dM_side_98 h
  · have h := hf c1
    refine lv_lload_n hx hb dM_side_48 rfl (lv_at hl 1 rfl) ?_
    refine lv_aload_n hx hb dM_side_49 rfl (lv_at hl 2 rfl) ?_
    refine k_get (ci := 8) (C := R_M) (T := T_M) (N := 32) hx hb hts (fun w q => gG_in (inG_M w q)) hown hK hP 27 rfl rfl 24 (by decide) (hts _ (gG_in mw_771)) rfl dM_side_50 ?_
    refine lv_iload_n hx hb dM_side_53 rfl (lv_at hl 4 rfl) ?_
    obtain ⟨q15, h⟩ := h
    refine k_lald hx hb hK hP 38 29 (σ 38) rfl rfl q15 dM_side_54 ?_
    obtain ⟨q16, h⟩ := h
    refine kl_cmp hx hb q16.1 q16.2 dM_side_55 ?_
    obtain ⟨ht, hf⟩ := h
    refine ki_if_le (tgt := 63) hx hb dM_side_56 (by decide) (by constructor <;> (repeat' split) <;> decide) (fun c4 => ?_) (fun c4 => ?_)
    · have h := ht c4
      refine lv_iconst (v := iI (-1)) hx hb dM_side_63 rfl ?_
      refine lv_goto (tgt := 98) hx hb dM_side_64 (by decide) ?_
      exact k_iretP hx hb hr hlocks dM_side_98 h
    · have h := hf c4
      refine lv_iconst (v := iI 1) hx hb dM_side_59 rfl ?_
      refine lv_goto (tgt := 98) hx hb dM_side_60 (by decide) ?_
      exact k_iretP hx hb hr hlocks dM_side_98 h
abbrev rm_M_clip : Room := { frames := 2, cells := 0, slots := 0, locals := 45 }
set_option maxHeartbeats 4000000 in
set_option maxRecDepth 100000 in
theorem c_M_clip (l : Launch) (dC : Nat → ClassId) (dI : Nat → Nat → Nat) (ad : Nat → Nat) (kc : Nat → ClassId) (nn : Nat → Nat) (σ : kM) (p0 : Int) {P : Int → kM → Prop} (h : wp_M_clip nn σ p0 P) : kMi l y_M_clip ws_M_clip rm_M_clip (dC, dI) vwC (tyC kc) (wC ad kc nn) nsG σ [.ref (ad 27), .int (iI p0)] P := by
  intro sz
  refine k_enter (cc := b_M_clip) (maxL := 4) (ret := (some .int)) (by decide) rfl (Nat.le_of_ble_eq_true rfl) ?_
  intro p e s m below meth c ls S hr hlocks hsz hA hW hK hN hl
  generalize va_A ((wC ad kc nn) σ) sz = A at hA hW ⊢
  generalize ([.ref (ad 27), .int (iI p0)] : List Value).toArray = args at S ⊢
  obtain ⟨hx, hb, hml, hown, hts⟩ := id S
  have hl : lv_has ls 4 [(0, .ref (ad 27)), (1, .int (iI p0))] := hl
  unfold wp_M_clip at h
  refine lv_aload_n hx hb dM_clip_0 rfl (lv_at hl 0 rfl) ?_
  refine lv_iload_n hx hb dM_clip_1 rfl (lv_at hl 1 rfl) ?_
  refine lv_iconst (v := iI 1) hx hb dM_clip_2 rfl ?_
  refine lv_sipush (v := iI 1000) hx hb dM_clip_3 (by decide) ?_
  obtain ⟨P1, g1, h⟩ := h
  refine kc_sp (As := [.int (iI p0), .int (iI 1), .int (iI 1000)]) (rest := [.ref (ad 27)]) S (c_M_isIn l dC dI (tyC kc) (wC ad kc nn) nn σ p0 1 1000 g1) (cwS 3 hts (gS mw_852 mw_853 mw_10 k_M_isIn) rfl rfl rfl (by decide +kernel) ⟨Nat.le_of_ble_eq_true rfl, Nat.le_of_ble_eq_true rfl⟩) hK hN hW.1 rfl hl.1 rfl (Nat.le_of_ble_eq_true rfl) dM_clip_6 ⟨Nat.zero_le _, Nat.zero_le _⟩ (fun r1 hp => ?_)
  have h := h r1 hp
  obtain ⟨q1, h⟩ := h
  have jW2 : ∀ (v1 : Int) (H : Heap) (locs : List Loc) (ls : Array Slot), kW (dC, dI) vwC A s.heap (wC ad kc nn σ) H locs → lv_has ls 4 [(0, .ref (ad 27)), (1, .int (iI p0))] → jn_M_clip_28 nn p0 σ P v1 → W p l e (headSpec ws_M_clip rm_M_clip).room s m args below meth c H locs 0 0 (MQ below (kQi (dC, dI) vwC (wC ad kc nn) P A) args s 0 0 A) (F0 m 28 ls [.int (iI v1), .ref (ad 27)]) := by
    intro v1 H locs ls hW hl h
    unfold jn_M_clip_28 at h
    obtain ⟨s1, es1⟩ : ∃ z : kM, z = va_up σ 27 (va_up (σ 27) 0 v1) := ⟨_, rfl⟩
    refine k_put (ty := .int) (ws' := wC ad kc nn s1) (ci := 8) (C := R_M) (T := T_M) (N := 32) hx hb hts (fun w q => gG_in (inG_M w q)) ty_M tk_M nm_M hown hK hW 27 rfl rfl 0 (by decide) (hts _ (gG_in mw_747)) rfl (by decide +kernel) rfl rfl (Nat.le_of_ble_eq_true rfl) (by rw [es1]; exact wC_p27_0 ..) dM_clip_28 (fun H locs hW => ?_)
    have h := h s1 es1
    refine lv_aload_n hx hb dM_clip_31 rfl (lv_at hl 0 rfl) ?_
    refine k_get (ci := 8) (C := R_M) (T := T_M) (N := 32) hx hb hts (fun w q => gG_in (inG_M w q)) hown hK hW.1 27 rfl rfl 0 (by decide) (hts _ (gG_in mw_747)) rfl dM_clip_32 ?_
    obtain ⟨q2, h⟩ := h
    obtain ⟨ht, hf⟩ := h
    refine ki_if_le (tgt := 40) hx hb dM_clip_35 (by decide) q2 (fun c1 => ?_) (fun c1 => ?_)
    · have h := ht c1
      refine lv_aload_n hx hb dM_clip_40 rfl (lv_at hl 0 rfl) ?_
      refine lv_aload_n hx hb dM_clip_41 rfl (lv_at hl 0 rfl) ?_
      refine lv_aload_n hx hb dM_clip_42 rfl (lv_at hl 0 rfl) ?_
      refine k_get (ci := 8) (C := R_M) (T := T_M) (N := 32) hx hb hts (fun w q => gG_in (inG_M w q)) hown hK hW.1 27 rfl rfl 11 (by decide) (hts _ (gG_in mw_758)) rfl dM_clip_43 ?_
      obtain ⟨P2, g2, h⟩ := h
      refine kc_vp (As := [.int (iI (s1 27 11))]) (rest := [.ref (ad 27)]) (ci := 8) (q0 := 27) S (c_M_beforeTurn l dC dI ad kc nn s1 (s1 27 11) g2) (cwV 1 hts (gV mw_899 mw_901 ps_20 mw_10 k_M_beforeTurn) rfl rfl rfl (by decide +kernel) ⟨Nat.le_of_ble_eq_true rfl, Nat.le_of_ble_eq_true rfl⟩) hK hN hW.1 rfl rfl rfl hl.1 rfl (Nat.le_of_ble_eq_true rfl) dM_clip_46 ⟨Nat.zero_le _, Nat.zero_le _⟩ (fun r2 hp => ?_)
      have h := h r2 hp
      refine lv_iload_n hx hb dM_clip_49 rfl (lv_at hl 1 rfl) ?_
      obtain ⟨q3, h⟩ := h
      refine ki_div hx hb dM_clip_50 q3 ?_
      obtain ⟨s2, es2⟩ : ∃ z : kM, z = va_up s1 27 (va_up (s1 27) 22 (r2 / p0)) := ⟨_, rfl⟩
      refine k_put (ty := .int) (ws' := wC ad kc nn s2) (ci := 8) (C := R_M) (T := T_M) (N := 32) hx hb hts (fun w q => gG_in (inG_M w q)) ty_M tk_M nm_M hown hK hW 27 rfl rfl 22 (by decide) (hts _ (gG_in mw_769)) rfl (by decide +kernel) rfl rfl (Nat.le_of_ble_eq_true rfl) (by rw [es2]; exact wC_p27_22 ..) dM_clip_51 (fun H locs hW => ?_)
      have h := h s2 es2
      refine lv_aload_n hx hb dM_clip_54 rfl (lv_at hl 0 rfl) ?_
      refine lv_aload_n hx hb dM_clip_55 rfl (lv_at hl 0 rfl) ?_
      refine k_get (ci := 8) (C := R_M) (T := T_M) (N := 32) hx hb hts (fun w q => gG_in (inG_M w q)) hown hK hW.1 27 rfl rfl 22 (by decide) (hts _ (gG_in mw_769)) rfl dM_clip_56 ?_
      refine lv_sipush (v := iI 2000) hx hb dM_clip_59 (by decide) ?_
      obtain ⟨q4, h⟩ := h
      have jW1 : ∀ (v2 : Int) (H : Heap) (locs : List Loc) (ls : Array Slot), kW (dC, dI) vwC A s.heap (wC ad kc nn s2) H locs → lv_has ls 4 [(0, .ref (ad 27)), (1, .int (iI p0))] → jn_M_clip_75 nn p0 P s2 v2 → W p l e (headSpec ws_M_clip rm_M_clip).room s m args below meth c H locs 0 0 (MQ below (kQi (dC, dI) vwC (wC ad kc nn) P A) args s 0 0 A) (F0 m 75 ls [.int (iI v2), .ref (ad 27)]) := by
        intro v2 H locs ls hW hl h
        unfold jn_M_clip_75 at h
        obtain ⟨s3, es3⟩ : ∃ z : kM, z = va_up s2 27 (va_up (s2 27) 22 v2) := ⟨_, rfl⟩
        refine k_put (ty := .int) (ws' := wC ad kc nn s3) (ci := 8) (C := R_M) (T := T_M) (N := 32) hx hb hts (fun w q => gG_in (inG_M w q)) ty_M tk_M nm_M hown hK hW 27 rfl rfl 22 (by decide) (hts _ (gG_in mw_769)) rfl (by decide +kernel) rfl rfl (Nat.le_of_ble_eq_true rfl) (by rw [es3]; exact wC_p27_22 ..) dM_clip_75 (fun H locs hW => ?_)
        have h := h s3 es3
        refine lv_iconst (v := iI 0) hx hb dM_clip_78 rfl ?_
        refine lv_istore_n (lv' := [(2, .int (iI 0)), (0, .ref (ad 27)), (1, .int (iI p0))]) hx hb dM_clip_79 rfl hl (by decide) rfl (fun ls hl => ?_)
        obtain ⟨Pe1, k1, h, hk1⟩ := h
        have xW6 : ∀ (v4 : Int) (s5 : kM) (H : Heap) (locs : List Loc) (ls : Array Slot), kW (dC, dI) vwC A s.heap (wC ad kc nn s5) H locs → lv_has ls 4 [(0, .ref (ad 27)), (1, .int (iI p0))] → Pe1 v4 s5 → W p l e (headSpec ws_M_clip rm_M_clip).room s m args below meth c H locs 0 0 (MQ below (kQi (dC, dI) vwC (wC ad kc nn) P A) args s 0 0 A) (F0 m 100 ls []) := by
          intro v4 s5 H locs ls hW hl h
          have h := hk1 v4 s5 h
          refine lv_iconst (v := iI 0) hx hb dM_clip_100 rfl ?_
          refine lv_istore_n (lv' := [(2, .int (iI 0)), (0, .ref (ad 27)), (1, .int (iI p0))]) hx hb dM_clip_101 rfl hl (by decide) rfl (fun ls hl => ?_)
          obtain ⟨Pe2, k2, h, hk2⟩ := h
          have xW5 : ∀ (v6 : Int) (s7 : kM) (H : Heap) (locs : List Loc) (ls : Array Slot), kW (dC, dI) vwC A s.heap (wC ad kc nn s7) H locs → lv_has ls 4 [(0, .ref (ad 27))] → Pe2 v6 s7 → W p l e (headSpec ws_M_clip rm_M_clip).room s m args below meth c H locs 0 0 (MQ below (kQi (dC, dI) vwC (wC ad kc nn) P A) args s 0 0 A) (F0 m 155 ls []) := by
            intro v6 s7 H locs ls hW hl h
            have h := hk2 v6 s7 h
            refine lv_aload_n hx hb dM_clip_155 rfl (lv_at hl 0 rfl) ?_
            refine k_get (ci := 8) (C := R_M) (T := T_M) (N := 32) hx hb hts (fun w q => gG_in (inG_M w q)) hown hK hW.1 27 rfl rfl 24 (by decide) (hts _ (gG_in mw_771)) rfl dM_clip_156 ?_
            refine lv_aload_n hx hb dM_clip_159 rfl (lv_at hl 0 rfl) ?_
            refine k_get (ci := 8) (C := R_M) (T := T_M) (N := 32) hx hb hts (fun w q => gG_in (inG_M w q)) hown hK hW.1 27 rfl rfl 22 (by decide) (hts _ (gG_in mw_769)) rfl dM_clip_160 ?_
            refine lv_lconst (v := lI 0) hx hb dM_clip_163 (by decide) ?_
            obtain ⟨q5, h⟩ := h
            obtain ⟨s8, es8⟩ : ∃ z : kM, z = va_up s7 38 (va_up (s7 38) (s7 27 22).toNat 0) := ⟨_, rfl⟩
            refine k_last (ws' := wC ad kc nn s8) hx hb hK hW 38 29 (s7 38) rfl rfl q5 (by rw [es8]; exact wC_a38 ..) dM_clip_164 (fun H locs hW => ?_)
            have h := h s8 es8
            refine lv_aload_n hx hb dM_clip_165 rfl (lv_at hl 0 rfl) ?_
            refine k_get (ci := 8) (C := R_M) (T := T_M) (N := 32) hx hb hts (fun w q => gG_in (inG_M w q)) hown hK hW.1 27 rfl rfl 25 (by decide) (hts _ (gG_in mw_772)) rfl dM_clip_166 ?_
            refine lv_aload_n hx hb dM_clip_169 rfl (lv_at hl 0 rfl) ?_
            refine k_get (ci := 8) (C := R_M) (T := T_M) (N := 32) hx hb hts (fun w q => gG_in (inG_M w q)) hown hK hW.1 27 rfl rfl 22 (by decide) (hts _ (gG_in mw_769)) rfl dM_clip_170 ?_
            refine lv_iconst (v := iI 0) hx hb dM_clip_173 rfl ?_
            obtain ⟨q6, h⟩ := h
            obtain ⟨s9, es9⟩ : ∃ z : kM, z = va_up s8 39 (va_up (s8 39) (s8 27 22).toNat 0) := ⟨_, rfl⟩
            refine k_iast (ws' := wC ad kc nn s9) hx hb hK hW 39 30 (s8 39) rfl rfl q6 (by rw [es9]; exact wC_a39 ..) dM_clip_174 (fun H locs hW => ?_)
            have h := h s9 es9
            refine lv_aload_n hx hb dM_clip_175 rfl (lv_at hl 0 rfl) ?_
            refine k_get (ci := 8) (C := R_M) (T := T_M) (N := 32) hx hb hts (fun w q => gG_in (inG_M w q)) hown hK hW.1 27 rfl rfl 22 (by decide) (hts _ (gG_in mw_769)) rfl dM_clip_176 ?_
            refine lv_iconst (v := iI 1) hx hb dM_clip_179 rfl ?_
            refine ki_sub hx hb dM_clip_180 ?_
            refine ki_nm (fun v7 ev7 => ?_)
            have h := h v7 ev7
            refine lv_istore_n (lv' := [(2, .int (iI v7)), (0, .ref (ad 27))]) hx hb dM_clip_181 rfl hl (by decide) rfl (fun ls hl => ?_)
            obtain ⟨Pe3, k3, h, hk3⟩ := h
            have xW3 : ∀ (v9 : Int) (s11 : kM) (H : Heap) (locs : List Loc) (ls : Array Slot), kW (dC, dI) vwC A s.heap (wC ad kc nn s11) H locs → lv_has ls 4 [(0, .ref (ad 27))] → Pe3 v9 s11 → W p l e (headSpec ws_M_clip rm_M_clip).room s m args below meth c H locs 0 0 (MQ below (kQi (dC, dI) vwC (wC ad kc nn) P A) args s 0 0 A) (F0 m 302 ls []) := by
              intro v9 s11 H locs ls hW hl h
              have h := hk3 v9 s11 h
              refine lv_aload_n hx hb dM_clip_302 rfl (lv_at hl 0 rfl) ?_
              refine lv_iconst (v := iI 0) hx hb dM_clip_303 rfl ?_
              obtain ⟨s12, es12⟩ : ∃ z : kM, z = va_up s11 27 (va_up (s11 27) 28 0) := ⟨_, rfl⟩
              refine k_put (ty := .int) (ws' := wC ad kc nn s12) (ci := 8) (C := R_M) (T := T_M) (N := 32) hx hb hts (fun w q => gG_in (inG_M w q)) ty_M tk_M nm_M hown hK hW 27 rfl rfl 28 (by decide) (hts _ (gG_in mw_775)) rfl (by decide +kernel) rfl rfl (Nat.le_of_ble_eq_true rfl) (by rw [es12]; exact wC_p27_28 ..) dM_clip_304 (fun H locs hW => ?_)
              have h := h s12 es12
              refine lv_iconst (v := iI 0) hx hb dM_clip_307 rfl ?_
              refine lv_istore_n (lv' := [(2, .int (iI 0)), (0, .ref (ad 27))]) hx hb dM_clip_308 rfl hl (by decide) rfl (fun ls hl => ?_)
              obtain ⟨Pe4, k4, h, hk4⟩ := h
              have xW1 : ∀ (v11 : Int) (s14 : kM) (H : Heap) (locs : List Loc) (ls : Array Slot), kW (dC, dI) vwC A s.heap (wC ad kc nn s14) H locs → lv_has ls 4 [(0, .ref (ad 27))] → Pe4 v11 s14 → W p l e (headSpec ws_M_clip rm_M_clip).room s m args below meth c H locs 0 0 (MQ below (kQi (dC, dI) vwC (wC ad kc nn) P A) args s 0 0 A) (F0 m 407 ls []) := by
                intro v11 s14 H locs ls hW hl h
                have h := hk4 v11 s14 h
                refine lv_aload_n hx hb dM_clip_407 rfl (lv_at hl 0 rfl) ?_
                refine lv_iconst (v := iI 1) hx hb dM_clip_408 rfl ?_
                obtain ⟨s15, es15⟩ : ∃ z : kM, z = va_up s14 27 (va_up (s14 27) 21 1) := ⟨_, rfl⟩
                refine k_put (ty := .boolean) (ws' := wC ad kc nn s15) (ci := 8) (C := R_M) (T := T_M) (N := 32) hx hb hts (fun w q => gG_in (inG_M w q)) ty_M tk_M nm_M hown hK hW 27 rfl rfl 21 (by decide) (hts _ (gG_in mw_768)) rfl (by decide +kernel) (narZ (by decide)) (fitZ (by decide)) (Nat.le_of_ble_eq_true rfl) (by rw [es15]; exact wC_p27_21 ..) dM_clip_409 (fun H locs hW => ?_)
                have h := h s15 es15
                refine lv_aload_n hx hb dM_clip_412 rfl (lv_at hl 0 rfl) ?_
                refine k_get (ci := 8) (C := R_M) (T := T_M) (N := 32) hx hb hts (fun w q => gG_in (inG_M w q)) hown hK hW.1 27 rfl rfl 28 (by decide) (hts _ (gG_in mw_775)) rfl dM_clip_413 ?_
                exact k_iret hx hb hr hlocks hW dM_clip_416 h
              have lW2 : ∀ (ki2 : Nat) (v10 : Int) (s13 : kM) (H : Heap) (locs : List Loc) (ls : Array Slot), kW (dC, dI) vwC A s.heap (wC ad kc nn s13) H locs → lv_has ls 4 [(2, .int (iI v10)), (0, .ref (ad 27))] → lp_M_clip_309 nn Pe4 ki2 v10 s13 → W p l e (headSpec ws_M_clip rm_M_clip).room s m args below meth c H locs 0 0 (MQ below (kQi (dC, dI) vwC (wC ad kc nn) P A) args s 0 0 A) (F0 m 309 ls []) := by
                intro ki2
                induction ki2 with
                | zero => intro v10 s13 H locs ls hW hl h; exact h.elim
                | succ ki2 ih2 =>
                  intro v10 s13 H locs ls hW hl h
                  have h : lpB_M_clip_309 nn Pe4 (lp_M_clip_309 nn Pe4 ki2) v10 s13 := h
                  unfold lpB_M_clip_309 at h
                  refine lv_iload_n hx hb dM_clip_309 rfl (lv_at hl 0 rfl) ?_
                  refine lv_aload_n hx hb dM_clip_310 rfl (lv_at hl 1 rfl) ?_
                  refine k_get (ci := 8) (C := R_M) (T := T_M) (N := 32) hx hb hts (fun w q => gG_in (inG_M w q)) hown hK hW.1 27 rfl rfl 22 (by decide) (hts _ (gG_in mw_769)) rfl dM_clip_311 ?_
                  obtain ⟨q7, h⟩ := h
                  obtain ⟨q8, h⟩ := h
                  obtain ⟨ht, hf⟩ := h
                  refine ki_icmp_ge (tgt := 407) hx hb dM_clip_314 (by decide) q7 q8 (fun c2 => ?_) (fun c2 => ?_)
                  · have h := ht c2
                    exact xW1 v10 s13 _ _ ls hW (lv_sub hl [1] rfl) h
                  · have h := hf c2
                    refine lv_iconst (v := iI 0) hx hb dM_clip_317 rfl ?_
                    refine lv_istore_n (lv' := [(3, .int (iI 0)), (2, .int (iI v10)), (0, .ref (ad 27))]) hx hb dM_clip_318 rfl hl (by decide) rfl (fun ls hl => ?_)
                    obtain ⟨Pe5, k5, h, hk5⟩ := h
                    have xW2 : ∀ (v13 : Int) (H : Heap) (locs : List Loc) (ls : Array Slot), kW (dC, dI) vwC A s.heap (wC ad kc nn s13) H locs → lv_has ls 4 [(3, .int (iI v13)), (2, .int (iI v10)), (0, .ref (ad 27))] → Pe5 v13 → W p l e (headSpec ws_M_clip rm_M_clip).room s m args below meth c H locs 0 0 (MQ below (kQi (dC, dI) vwC (wC ad kc nn) P A) args s 0 0 A) (F0 m 351 ls []) := by
                      intro v13 H locs ls hW hl h
                      have h := hk5 v13 h
                      refine lv_iload_n hx hb dM_clip_351 rfl (lv_at hl 0 rfl) ?_
                      refine lv_aload_n hx hb dM_clip_352 rfl (lv_at hl 2 rfl) ?_
                      refine k_get (ci := 8) (C := R_M) (T := T_M) (N := 32) hx hb hts (fun w q => gG_in (inG_M w q)) hown hK hW.1 27 rfl rfl 20 (by decide) (hts _ (gG_in mw_767)) rfl dM_clip_353 ?_
                      obtain ⟨q9, h⟩ := h
                      obtain ⟨q10, h⟩ := h
                      obtain ⟨ht, hf⟩ := h
                      refine ki_icmp_ge (tgt := 401) hx hb dM_clip_356 (by decide) q9 q10 (fun c3 => ?_) (fun c3 => ?_)
                      · have h := ht c3
                        obtain ⟨v14, ev14⟩ : ∃ z : Int, z = v10 + 1 := ⟨_, rfl⟩
                        refine lv_iinc (v := iI v14) (lv' := [(2, .int (iI v14)), (3, .int (iI v13)), (0, .ref (ad 27))]) hx hb dM_clip_401 hl (k := 1) rfl (by rw [ev14, ← iI_add]; rfl) (by decide) rfl (fun ls hl => ?_)
                        have h := h v14 ev14
                        refine lv_goto (tgt := 309) hx hb dM_clip_404 (by decide) ?_
                        exact ih2 v14 s13 _ _ ls hW (lv_sub hl [0, 2] rfl) h
                      · have h := hf c3
                        refine lv_aload_n hx hb dM_clip_359 rfl (lv_at hl 2 rfl) ?_
                        refine k_get (ci := 8) (C := R_M) (T := T_M) (N := 32) hx hb hts (fun w q => gG_in (inG_M w q)) hown hK hW.1 27 rfl rfl 26 (by decide) (hts _ (gG_in mw_773)) rfl dM_clip_360 ?_
                        refine lv_aload_n hx hb dM_clip_363 rfl (lv_at hl 2 rfl) ?_
                        refine k_get (ci := 8) (C := R_M) (T := T_M) (N := 32) hx hb hts (fun w q => gG_in (inG_M w q)) hown hK hW.1 27 rfl rfl 28 (by decide) (hts _ (gG_in mw_775)) rfl dM_clip_364 ?_
                        refine lv_iload_n hx hb dM_clip_367 rfl (lv_at hl 0 rfl) ?_
                        obtain ⟨q11, h⟩ := h
                        obtain ⟨s16, es16⟩ : ∃ z : kM, z = va_up s13 40 (va_up (s13 40) (s13 27 28).toNat v13) := ⟨_, rfl⟩
                        refine k_iast (ws' := wC ad kc nn s16) hx hb hK hW 40 31 (s13 40) rfl rfl q11 (by rw [es16]; exact wC_a40 ..) dM_clip_368 (fun H locs hW => ?_)
                        have h := h s16 es16
                        refine lv_aload_n hx hb dM_clip_369 rfl (lv_at hl 2 rfl) ?_
                        refine k_get (ci := 8) (C := R_M) (T := T_M) (N := 32) hx hb hts (fun w q => gG_in (inG_M w q)) hown hK hW.1 27 rfl rfl 27 (by decide) (hts _ (gG_in mw_774)) rfl dM_clip_370 ?_
                        refine lv_aload_n hx hb dM_clip_373 rfl (lv_at hl 2 rfl) ?_
                        refine k_get (ci := 8) (C := R_M) (T := T_M) (N := 32) hx hb hts (fun w q => gG_in (inG_M w q)) hown hK hW.1 27 rfl rfl 28 (by decide) (hts _ (gG_in mw_775)) rfl dM_clip_374 ?_
                        refine lv_iload_n hx hb dM_clip_377 rfl (lv_at hl 1 rfl) ?_
                        obtain ⟨q12, h⟩ := h
                        obtain ⟨s17, es17⟩ : ∃ z : kM, z = va_up s16 41 (va_up (s16 41) (s16 27 28).toNat v10) := ⟨_, rfl⟩
                        refine k_iast (ws' := wC ad kc nn s17) hx hb hK hW 41 32 (s16 41) rfl rfl q12 (by rw [es17]; exact wC_a41 ..) dM_clip_378 (fun H locs hW => ?_)
                        have h := h s17 es17
                        refine lv_aload_n hx hb dM_clip_379 rfl (lv_at hl 2 rfl) ?_
                        refine lv_dup hx hb dM_clip_380 rfl ?_
                        refine k_get (ci := 8) (C := R_M) (T := T_M) (N := 32) hx hb hts (fun w q => gG_in (inG_M w q)) hown hK hW.1 27 rfl rfl 28 (by decide) (hts _ (gG_in mw_775)) rfl dM_clip_381 ?_
                        refine lv_iconst (v := iI 1) hx hb dM_clip_384 rfl ?_
                        refine ki_add hx hb dM_clip_385 ?_
                        obtain ⟨s18, es18⟩ : ∃ z : kM, z = va_up s17 27 (va_up (s17 27) 28 ((s17 27 28) + 1)) := ⟨_, rfl⟩
                        refine k_put (ty := .int) (ws' := wC ad kc nn s18) (ci := 8) (C := R_M) (T := T_M) (N := 32) hx hb hts (fun w q => gG_in (inG_M w q)) ty_M tk_M nm_M hown hK hW 27 rfl rfl 28 (by decide) (hts _ (gG_in mw_775)) rfl (by decide +kernel) rfl rfl (Nat.le_of_ble_eq_true rfl) (by rw [es18]; exact wC_p27_28 ..) dM_clip_386 (fun H locs hW => ?_)
                        have h := h s18 es18
                        refine lv_iload_n hx hb dM_clip_389 rfl (lv_at hl 1 rfl) ?_
                        refine lv_aload_n hx hb dM_clip_390 rfl (lv_at hl 2 rfl) ?_
                        refine k_get (ci := 8) (C := R_M) (T := T_M) (N := 32) hx hb hts (fun w q => gG_in (inG_M w q)) hown hK hW.1 27 rfl rfl 17 (by decide) (hts _ (gG_in mw_764)) rfl dM_clip_391 ?_
                        refine lv_iload_n hx hb dM_clip_394 rfl (lv_at hl 0 rfl) ?_
                        obtain ⟨q13, h⟩ := h
                        refine k_iald hx hb hK hW.1 34 25 (s18 34) rfl rfl q13 dM_clip_395 ?_
                        refine ki_add hx hb dM_clip_396 ?_
                        refine ki_nm (fun v15 ev15 => ?_)
                        have h := h v15 ev15
                        refine lv_istore_n (lv' := [(2, .int (iI v15)), (3, .int (iI v13)), (0, .ref (ad 27))]) hx hb dM_clip_397 rfl hl (by decide) rfl (fun ls hl => ?_)
                        refine lv_goto (tgt := 404) hx hb dM_clip_398 (by decide) ?_
                        refine lv_goto (tgt := 309) hx hb dM_clip_404 (by decide) ?_
                        exact ih2 v15 s18 _ _ ls hW (lv_sub hl [0, 2] rfl) h
                    have lW1 : ∀ (ki1 : Nat) (v12 : Int) (H : Heap) (locs : List Loc) (ls : Array Slot), kW (dC, dI) vwC A s.heap (wC ad kc nn s13) H locs → lv_has ls 4 [(3, .int (iI v12)), (2, .int (iI v10)), (0, .ref (ad 27))] → lp_M_clip_319 nn v10 s13 Pe5 ki1 v12 → W p l e (headSpec ws_M_clip rm_M_clip).room s m args below meth c H locs 0 0 (MQ below (kQi (dC, dI) vwC (wC ad kc nn) P A) args s 0 0 A) (F0 m 319 ls []) := by
                      intro ki1
                      induction ki1 with
                      | zero => intro v12 H locs ls hW hl h; exact h.elim
                      | succ ki1 ih1 =>
                        intro v12 H locs ls hW hl h
                        have h : lpB_M_clip_319 nn v10 s13 Pe5 (lp_M_clip_319 nn v10 s13 Pe5 ki1) v12 := h
                        unfold lpB_M_clip_319 at h
                        refine lv_iload_n hx hb dM_clip_319 rfl (lv_at hl 0 rfl) ?_
                        refine lv_aload_n hx hb dM_clip_320 rfl (lv_at hl 2 rfl) ?_
                        refine k_get (ci := 8) (C := R_M) (T := T_M) (N := 32) hx hb hts (fun w q => gG_in (inG_M w q)) hown hK hW.1 27 rfl rfl 20 (by decide) (hts _ (gG_in mw_767)) rfl dM_clip_321 ?_
                        obtain ⟨q14, h⟩ := h
                        obtain ⟨q15, h⟩ := h
                        obtain ⟨ht, hf⟩ := h
                        refine ki_icmp_ge (tgt := 351) hx hb dM_clip_324 (by decide) q14 q15 (fun c4 => ?_) (fun c4 => ?_)
                        · have h := ht c4
                          exact xW2 v12 _ _ ls hW (lv_sub hl [0, 1, 2] rfl) h
                        · have h := hf c4
                          refine lv_aload_n hx hb dM_clip_327 rfl (lv_at hl 2 rfl) ?_
                          refine lv_iload_n hx hb dM_clip_328 rfl (lv_at hl 0 rfl) ?_
                          refine lv_iload_n hx hb dM_clip_329 rfl (lv_at hl 1 rfl) ?_
                          obtain ⟨P3, g3, h⟩ := h
                          refine kc_vp (As := [.int (iI v12), .int (iI v10)]) (rest := []) (ci := 8) (q0 := 27) S (c_M_fits l dC dI ad kc nn s13 v12 v10 g3) (cwV 2 hts (gV mw_927 mw_929 ps_22 mw_10 k_M_fits) rfl rfl rfl (by decide +kernel) ⟨Nat.le_of_ble_eq_true rfl, Nat.le_of_ble_eq_true rfl⟩) hK hN hW.1 rfl rfl rfl hl.1 rfl (Nat.le_of_ble_eq_true rfl) dM_clip_330 ⟨Nat.zero_le _, Nat.zero_le _⟩ (fun r3 hp => ?_)
                          have h := h r3 hp
                          obtain ⟨q16, h⟩ := h
                          obtain ⟨ht, hf⟩ := h
                          refine ki_if_eq (tgt := 345) hx hb dM_clip_333 (by decide) q16 (fun c5 => ?_) (fun c5 => ?_)
                          · have h := ht c5
                            obtain ⟨v16, ev16⟩ : ∃ z : Int, z = v12 + 1 := ⟨_, rfl⟩
                            refine lv_iinc (v := iI v16) (lv' := [(3, .int (iI v16)), (2, .int (iI v10)), (0, .ref (ad 27))]) hx hb dM_clip_345 hl (k := 0) rfl (by rw [ev16, ← iI_add]; rfl) (by decide) rfl (fun ls hl => ?_)
                            have h := h v16 ev16
                            refine lv_goto (tgt := 319) hx hb dM_clip_348 (by decide) ?_
                            exact ih1 v16 _ _ ls hW (lv_sub hl [0, 1, 2] rfl) h
                          · have h := hf c5
                            refine lv_aload_n hx hb dM_clip_336 rfl (lv_at hl 2 rfl) ?_
                            refine lv_iload_n hx hb dM_clip_337 rfl (lv_at hl 0 rfl) ?_
                            refine lv_iload_n hx hb dM_clip_338 rfl (lv_at hl 1 rfl) ?_
                            obtain ⟨P4, g4, h⟩ := h
                            refine kc_vp (As := [.int (iI v12), .int (iI v10)]) (rest := []) (ci := 8) (q0 := 27) S (c_M_side l dC dI ad kc nn s13 v12 v10 g4) (cwV 2 hts (gV mw_931 mw_933 ps_23 mw_10 k_M_side) rfl rfl rfl (by decide +kernel) ⟨Nat.le_of_ble_eq_true rfl, Nat.le_of_ble_eq_true rfl⟩) hK hN hW.1 rfl rfl rfl hl.1 rfl (Nat.le_of_ble_eq_true rfl) dM_clip_339 ⟨Nat.zero_le _, Nat.zero_le _⟩ (fun r4 hp => ?_)
                            have h := h r4 hp
                            obtain ⟨q17, h⟩ := h
                            obtain ⟨ht, hf⟩ := h
                            refine ki_if_eq (tgt := 351) hx hb dM_clip_342 (by decide) q17 (fun c6 => ?_) (fun c6 => ?_)
                            · have h := ht c6
                              exact xW2 v12 _ _ ls hW (lv_sub hl [0, 1, 2] rfl) h
                            · have h := hf c6
                              obtain ⟨v17, ev17⟩ : ∃ z : Int, z = v12 + 1 := ⟨_, rfl⟩
                              refine lv_iinc (v := iI v17) (lv' := [(3, .int (iI v17)), (2, .int (iI v10)), (0, .ref (ad 27))]) hx hb dM_clip_345 hl (k := 0) rfl (by rw [ev17, ← iI_add]; rfl) (by decide) rfl (fun ls hl => ?_)
                              have h := h v17 ev17
                              refine lv_goto (tgt := 319) hx hb dM_clip_348 (by decide) ?_
                              exact ih1 v17 _ _ ls hW (lv_sub hl [0, 1, 2] rfl) h
                    exact lW1 k5 0 _ _ ls hW (lv_sub hl [0, 1, 2] rfl) h
              exact lW2 k4 0 s12 _ _ ls hW (lv_sub hl [0, 1] rfl) h
            have lW4 : ∀ (ki4 : Nat) (v8 : Int) (s10 : kM) (H : Heap) (locs : List Loc) (ls : Array Slot), kW (dC, dI) vwC A s.heap (wC ad kc nn s10) H locs → lv_has ls 4 [(2, .int (iI v8)), (0, .ref (ad 27))] → lp_M_clip_182 nn Pe3 ki4 v8 s10 → W p l e (headSpec ws_M_clip rm_M_clip).room s m args below meth c H locs 0 0 (MQ below (kQi (dC, dI) vwC (wC ad kc nn) P A) args s 0 0 A) (F0 m 182 ls []) := by
              intro ki4
              induction ki4 with
              | zero => intro v8 s10 H locs ls hW hl h; exact h.elim
              | succ ki4 ih4 =>
                intro v8 s10 H locs ls hW hl h
                have h : lpB_M_clip_182 nn Pe3 (lp_M_clip_182 nn Pe3 ki4) v8 s10 := h
                unfold lpB_M_clip_182 at h
                refine lv_iload_n hx hb dM_clip_182 rfl (lv_at hl 0 rfl) ?_
                obtain ⟨q18, h⟩ := h
                obtain ⟨ht, hf⟩ := h
                refine ki_if_lt (tgt := 302) hx hb dM_clip_183 (by decide) q18 (fun c7 => ?_) (fun c7 => ?_)
                · have h := ht c7
                  exact xW3 v8 s10 _ _ ls hW (lv_sub hl [1] rfl) h
                · have h := hf c7
                  refine lv_aload_n hx hb dM_clip_186 rfl (lv_at hl 1 rfl) ?_
                  refine k_get (ci := 8) (C := R_M) (T := T_M) (N := 32) hx hb hts (fun w q => gG_in (inG_M w q)) hown hK hW.1 27 rfl rfl 24 (by decide) (hts _ (gG_in mw_771)) rfl dM_clip_187 ?_
                  refine lv_iload_n hx hb dM_clip_190 rfl (lv_at hl 0 rfl) ?_
                  refine lv_aload_n hx hb dM_clip_191 rfl (lv_at hl 1 rfl) ?_
                  refine k_get (ci := 8) (C := R_M) (T := T_M) (N := 32) hx hb hts (fun w q => gG_in (inG_M w q)) hown hK hW.1 27 rfl rfl 24 (by decide) (hts _ (gG_in mw_771)) rfl dM_clip_192 ?_
                  refine lv_iload_n hx hb dM_clip_195 rfl (lv_at hl 0 rfl) ?_
                  refine lv_iconst (v := iI 1) hx hb dM_clip_196 rfl ?_
                  refine ki_add hx hb dM_clip_197 ?_
                  obtain ⟨q19, h⟩ := h
                  refine k_lald hx hb hK hW.1 38 29 (s10 38) rfl rfl q19 dM_clip_198 ?_
                  obtain ⟨q20, h⟩ := h
                  obtain ⟨s19, es19⟩ : ∃ z : kM, z = va_up s10 38 (va_up (s10 38) v8.toNat (s10 38 (v8 + 1).toNat)) := ⟨_, rfl⟩
                  refine k_last (ws' := wC ad kc nn s19) hx hb hK hW 38 29 (s10 38) rfl rfl q20 (by rw [es19]; exact wC_a38 ..) dM_clip_199 (fun H locs hW => ?_)
                  have h := h s19 es19
                  refine lv_aload_n hx hb dM_clip_200 rfl (lv_at hl 1 rfl) ?_
                  refine k_get (ci := 8) (C := R_M) (T := T_M) (N := 32) hx hb hts (fun w q => gG_in (inG_M w q)) hown hK hW.1 27 rfl rfl 25 (by decide) (hts _ (gG_in mw_772)) rfl dM_clip_201 ?_
                  refine lv_iload_n hx hb dM_clip_204 rfl (lv_at hl 0 rfl) ?_
                  refine lv_aload_n hx hb dM_clip_205 rfl (lv_at hl 1 rfl) ?_
                  refine k_get (ci := 8) (C := R_M) (T := T_M) (N := 32) hx hb hts (fun w q => gG_in (inG_M w q)) hown hK hW.1 27 rfl rfl 25 (by decide) (hts _ (gG_in mw_772)) rfl dM_clip_206 ?_
                  refine lv_iload_n hx hb dM_clip_209 rfl (lv_at hl 0 rfl) ?_
                  refine lv_iconst (v := iI 1) hx hb dM_clip_210 rfl ?_
                  refine ki_add hx hb dM_clip_211 ?_
                  obtain ⟨q21, h⟩ := h
                  refine k_iald hx hb hK hW.1 39 30 (s19 39) rfl rfl q21 dM_clip_212 ?_
                  refine lv_iconst (v := iI 1) hx hb dM_clip_213 rfl ?_
                  refine ki_add hx hb dM_clip_214 ?_
                  obtain ⟨q22, h⟩ := h
                  obtain ⟨s20, es20⟩ : ∃ z : kM, z = va_up s19 39 (va_up (s19 39) v8.toNat ((s19 39 (v8 + 1).toNat) + 1)) := ⟨_, rfl⟩
                  refine k_iast (ws' := wC ad kc nn s20) hx hb hK hW 39 30 (s19 39) rfl rfl q22 (by rw [es20]; exact wC_a39 ..) dM_clip_215 (fun H locs hW => ?_)
                  have h := h s20 es20
                  refine lv_iconst (v := iI 0) hx hb dM_clip_216 rfl ?_
                  refine lv_istore_n (lv' := [(3, .int (iI 0)), (2, .int (iI v8)), (0, .ref (ad 27))]) hx hb dM_clip_217 rfl hl (by decide) rfl (fun ls hl => ?_)
                  obtain ⟨Pe6, k6, h, hk6⟩ := h
                  have xW4 : ∀ (v19 : Int) (s22 : kM) (H : Heap) (locs : List Loc) (ls : Array Slot), kW (dC, dI) vwC A s.heap (wC ad kc nn s22) H locs → lv_has ls 4 [(2, .int (iI v8)), (0, .ref (ad 27))] → Pe6 v19 s22 → W p l e (headSpec ws_M_clip rm_M_clip).room s m args below meth c H locs 0 0 (MQ below (kQi (dC, dI) vwC (wC ad kc nn) P A) args s 0 0 A) (F0 m 296 ls []) := by
                    intro v19 s22 H locs ls hW hl h
                    have h := hk6 v19 s22 h
                    obtain ⟨v20, ev20⟩ : ∃ z : Int, z = v8 + (-1) := ⟨_, rfl⟩
                    refine lv_iinc (v := iI v20) (lv' := [(2, .int (iI v20)), (0, .ref (ad 27))]) hx hb dM_clip_296 hl (k := 0) rfl (by rw [ev20, ← iI_add]; rfl) (by decide) rfl (fun ls hl => ?_)
                    have h := h v20 ev20
                    refine lv_goto (tgt := 182) hx hb dM_clip_299 (by decide) ?_
                    exact ih4 v20 s22 _ _ ls hW (lv_sub hl [0, 1] rfl) h
                  have lW3 : ∀ (ki3 : Nat) (v18 : Int) (s21 : kM) (H : Heap) (locs : List Loc) (ls : Array Slot), kW (dC, dI) vwC A s.heap (wC ad kc nn s21) H locs → lv_has ls 4 [(3, .int (iI v18)), (2, .int (iI v8)), (0, .ref (ad 27))] → lp_M_clip_218 nn v8 Pe6 ki3 v18 s21 → W p l e (headSpec ws_M_clip rm_M_clip).room s m args below meth c H locs 0 0 (MQ below (kQi (dC, dI) vwC (wC ad kc nn) P A) args s 0 0 A) (F0 m 218 ls []) := by
                    intro ki3
                    induction ki3 with
                    | zero => intro v18 s21 H locs ls hW hl h; exact h.elim
                    | succ ki3 ih3 =>
                      intro v18 s21 H locs ls hW hl h
                      have h : lpB_M_clip_218 nn v8 Pe6 (lp_M_clip_218 nn v8 Pe6 ki3) v18 s21 := h
                      unfold lpB_M_clip_218 at h
                      refine lv_iload_n hx hb dM_clip_218 rfl (lv_at hl 0 rfl) ?_
                      refine lv_aload_n hx hb dM_clip_219 rfl (lv_at hl 2 rfl) ?_
                      refine k_get (ci := 8) (C := R_M) (T := T_M) (N := 32) hx hb hts (fun w q => gG_in (inG_M w q)) hown hK hW.1 27 rfl rfl 20 (by decide) (hts _ (gG_in mw_767)) rfl dM_clip_220 ?_
                      obtain ⟨q23, h⟩ := h
                      obtain ⟨q24, h⟩ := h
                      obtain ⟨ht, hf⟩ := h
                      refine ki_icmp_ge (tgt := 296) hx hb dM_clip_223 (by decide) q23 q24 (fun c8 => ?_) (fun c8 => ?_)
                      · have h := ht c8
                        exact xW4 v18 s21 _ _ ls hW (lv_sub hl [1, 2] rfl) h
                      · have h := hf c8
                        refine lv_aload_n hx hb dM_clip_226 rfl (lv_at hl 2 rfl) ?_
                        refine lv_iload_n hx hb dM_clip_227 rfl (lv_at hl 0 rfl) ?_
                        refine lv_iload_n hx hb dM_clip_228 rfl (lv_at hl 1 rfl) ?_
                        obtain ⟨P5, g5, h⟩ := h
                        refine kc_vp (As := [.int (iI v18), .int (iI v8)]) (rest := []) (ci := 8) (q0 := 27) S (c_M_fits l dC dI ad kc nn s21 v18 v8 g5) (cwV 2 hts (gV mw_927 mw_929 ps_22 mw_10 k_M_fits) rfl rfl rfl (by decide +kernel) ⟨Nat.le_of_ble_eq_true rfl, Nat.le_of_ble_eq_true rfl⟩) hK hN hW.1 rfl rfl rfl hl.1 rfl (Nat.le_of_ble_eq_true rfl) dM_clip_229 ⟨Nat.zero_le _, Nat.zero_le _⟩ (fun r5 hp => ?_)
                        have h := h r5 hp
                        obtain ⟨q25, h⟩ := h
                        obtain ⟨ht, hf⟩ := h
                        refine ki_if_eq (tgt := 290) hx hb dM_clip_232 (by decide) q25 (fun c9 => ?_) (fun c9 => ?_)
                        · have h := ht c9
                          obtain ⟨v21, ev21⟩ : ∃ z : Int, z = v18 + 1 := ⟨_, rfl⟩
                          refine lv_iinc (v := iI v21) (lv' := [(3, .int (iI v21)), (2, .int (iI v8)), (0, .ref (ad 27))]) hx hb dM_clip_290 hl (k := 0) rfl (by rw [ev21, ← iI_add]; rfl) (by decide) rfl (fun ls hl => ?_)
                          have h := h v21 ev21
                          refine lv_goto (tgt := 218) hx hb dM_clip_293 (by decide) ?_
                          exact ih3 v21 s21 _ _ ls hW (lv_sub hl [0, 1, 2] rfl) h
                        · have h := hf c9
                          refine lv_aload_n hx hb dM_clip_235 rfl (lv_at hl 2 rfl) ?_
                          refine lv_iload_n hx hb dM_clip_236 rfl (lv_at hl 0 rfl) ?_
                          refine lv_iload_n hx hb dM_clip_237 rfl (lv_at hl 1 rfl) ?_
                          obtain ⟨P6, g6, h⟩ := h
                          refine kc_vp (As := [.int (iI v18), .int (iI v8)]) (rest := []) (ci := 8) (q0 := 27) S (c_M_side l dC dI ad kc nn s21 v18 v8 g6) (cwV 2 hts (gV mw_931 mw_933 ps_23 mw_10 k_M_side) rfl rfl rfl (by decide +kernel) ⟨Nat.le_of_ble_eq_true rfl, Nat.le_of_ble_eq_true rfl⟩) hK hN hW.1 rfl rfl rfl hl.1 rfl (Nat.le_of_ble_eq_true rfl) dM_clip_238 ⟨Nat.zero_le _, Nat.zero_le _⟩ (fun r6 hp => ?_)
                          have h := h r6 hp
                          obtain ⟨q26, h⟩ := h
                          obtain ⟨ht, hf⟩ := h
                          refine ki_if_le (tgt := 290) hx hb dM_clip_241 (by decide) q26 (fun c10 => ?_) (fun c10 => ?_)
                          · have h := ht c10
                            obtain ⟨v22, ev22⟩ : ∃ z : Int, z = v18 + 1 := ⟨_, rfl⟩
                            refine lv_iinc (v := iI v22) (lv' := [(3, .int (iI v22)), (2, .int (iI v8)), (0, .ref (ad 27))]) hx hb dM_clip_290 hl (k := 0) rfl (by rw [ev22, ← iI_add]; rfl) (by decide) rfl (fun ls hl => ?_)
                            have h := h v22 ev22
                            refine lv_goto (tgt := 218) hx hb dM_clip_293 (by decide) ?_
                            exact ih3 v22 s21 _ _ ls hW (lv_sub hl [0, 1, 2] rfl) h
                          · have h := hf c10
                            refine lv_aload_n hx hb dM_clip_244 rfl (lv_at hl 2 rfl) ?_
                            refine k_get (ci := 8) (C := R_M) (T := T_M) (N := 32) hx hb hts (fun w q => gG_in (inG_M w q)) hown hK hW.1 27 rfl rfl 24 (by decide) (hts _ (gG_in mw_771)) rfl dM_clip_245 ?_
                            refine lv_iload_n hx hb dM_clip_248 rfl (lv_at hl 1 rfl) ?_
                            refine lv_aload_n hx hb dM_clip_249 rfl (lv_at hl 2 rfl) ?_
                            refine k_get (ci := 8) (C := R_M) (T := T_M) (N := 32) hx hb hts (fun w q => gG_in (inG_M w q)) hown hK hW.1 27 rfl rfl 18 (by decide) (hts _ (gG_in mw_765)) rfl dM_clip_250 ?_
                            refine lv_iload_n hx hb dM_clip_253 rfl (lv_at hl 0 rfl) ?_
                            obtain ⟨q27, h⟩ := h
                            refine k_iald hx hb hK hW.1 35 26 (s21 35) rfl rfl q27 dM_clip_254 ?_
                            obtain ⟨q28, h⟩ := h
                            refine ki_i2l hx hb dM_clip_255 q28 ?_
                            refine lv_aload_n hx hb dM_clip_256 rfl (lv_at hl 2 rfl) ?_
                            refine k_get (ci := 8) (C := R_M) (T := T_M) (N := 32) hx hb hts (fun w q => gG_in (inG_M w q)) hown hK hW.1 27 rfl rfl 24 (by decide) (hts _ (gG_in mw_771)) rfl dM_clip_257 ?_
                            refine lv_iload_n hx hb dM_clip_260 rfl (lv_at hl 1 rfl) ?_
                            refine lv_aload_n hx hb dM_clip_261 rfl (lv_at hl 2 rfl) ?_
                            refine k_get (ci := 8) (C := R_M) (T := T_M) (N := 32) hx hb hts (fun w q => gG_in (inG_M w q)) hown hK hW.1 27 rfl rfl 17 (by decide) (hts _ (gG_in mw_764)) rfl dM_clip_262 ?_
                            refine lv_iload_n hx hb dM_clip_265 rfl (lv_at hl 0 rfl) ?_
                            obtain ⟨q29, h⟩ := h
                            refine k_iald hx hb hK hW.1 34 25 (s21 34) rfl rfl q29 dM_clip_266 ?_
                            refine ki_add hx hb dM_clip_267 ?_
                            obtain ⟨q30, h⟩ := h
                            refine k_lald hx hb hK hW.1 38 29 (s21 38) rfl rfl q30 dM_clip_268 ?_
                            refine kl_add hx hb dM_clip_269 ?_
                            obtain ⟨q31, h⟩ := h
                            obtain ⟨s23, es23⟩ : ∃ z : kM, z = va_up s21 38 (va_up (s21 38) v8.toNat ((s21 35 v18.toNat) + (s21 38 (v8 + (s21 34 v18.toNat)).toNat))) := ⟨_, rfl⟩
                            refine k_last (ws' := wC ad kc nn s23) hx hb hK hW 38 29 (s21 38) rfl rfl q31 (by rw [es23]; exact wC_a38 ..) dM_clip_270 (fun H locs hW => ?_)
                            have h := h s23 es23
                            refine lv_aload_n hx hb dM_clip_271 rfl (lv_at hl 2 rfl) ?_
                            refine k_get (ci := 8) (C := R_M) (T := T_M) (N := 32) hx hb hts (fun w q => gG_in (inG_M w q)) hown hK hW.1 27 rfl rfl 25 (by decide) (hts _ (gG_in mw_772)) rfl dM_clip_272 ?_
                            refine lv_iload_n hx hb dM_clip_275 rfl (lv_at hl 1 rfl) ?_
                            refine lv_aload_n hx hb dM_clip_276 rfl (lv_at hl 2 rfl) ?_
                            refine k_get (ci := 8) (C := R_M) (T := T_M) (N := 32) hx hb hts (fun w q => gG_in (inG_M w q)) hown hK hW.1 27 rfl rfl 25 (by decide) (hts _ (gG_in mw_772)) rfl dM_clip_277 ?_
                            refine lv_iload_n hx hb dM_clip_280 rfl (lv_at hl 1 rfl) ?_
                            refine lv_aload_n hx hb dM_clip_281 rfl (lv_at hl 2 rfl) ?_
                            refine k_get (ci := 8) (C := R_M) (T := T_M) (N := 32) hx hb hts (fun w q => gG_in (inG_M w q)) hown hK hW.1 27 rfl rfl 17 (by decide) (hts _ (gG_in mw_764)) rfl dM_clip_282 ?_
                            refine lv_iload_n hx hb dM_clip_285 rfl (lv_at hl 0 rfl) ?_
                            obtain ⟨q32, h⟩ := h
                            refine k_iald hx hb hK hW.1 34 25 (s23 34) rfl rfl q32 dM_clip_286 ?_
                            refine ki_add hx hb dM_clip_287 ?_
                            obtain ⟨q33, h⟩ := h
                            refine k_iald hx hb hK hW.1 39 30 (s23 39) rfl rfl q33 dM_clip_288 ?_
                            obtain ⟨q34, h⟩ := h
                            obtain ⟨s24, es24⟩ : ∃ z : kM, z = va_up s23 39 (va_up (s23 39) v8.toNat (s23 39 (v8 + (s23 34 v18.toNat)).toNat)) := ⟨_, rfl⟩
                            refine k_iast (ws' := wC ad kc nn s24) hx hb hK hW 39 30 (s23 39) rfl rfl q34 (by rw [es24]; exact wC_a39 ..) dM_clip_289 (fun H locs hW => ?_)
                            have h := h s24 es24
                            obtain ⟨v23, ev23⟩ : ∃ z : Int, z = v18 + 1 := ⟨_, rfl⟩
                            refine lv_iinc (v := iI v23) (lv' := [(3, .int (iI v23)), (2, .int (iI v8)), (0, .ref (ad 27))]) hx hb dM_clip_290 hl (k := 0) rfl (by rw [ev23, ← iI_add]; rfl) (by decide) rfl (fun ls hl => ?_)
                            have h := h v23 ev23
                            refine lv_goto (tgt := 218) hx hb dM_clip_293 (by decide) ?_
                            exact ih3 v23 s24 _ _ ls hW (lv_sub hl [0, 1, 2] rfl) h
                  exact lW3 k6 0 s20 _ _ ls hW (lv_sub hl [0, 1, 2] rfl) h
            exact lW4 k3 v7 s9 _ _ ls hW (lv_sub hl [0, 1] rfl) h
          have lW5 : ∀ (ki5 : Nat) (v5 : Int) (s6 : kM) (H : Heap) (locs : List Loc) (ls : Array Slot), kW (dC, dI) vwC A s.heap (wC ad kc nn s6) H locs → lv_has ls 4 [(2, .int (iI v5)), (0, .ref (ad 27)), (1, .int (iI p0))] → lp_M_clip_102 nn p0 Pe2 ki5 v5 s6 → W p l e (headSpec ws_M_clip rm_M_clip).room s m args below meth c H locs 0 0 (MQ below (kQi (dC, dI) vwC (wC ad kc nn) P A) args s 0 0 A) (F0 m 102 ls []) := by
            intro ki5
            induction ki5 with
            | zero => intro v5 s6 H locs ls hW hl h; exact h.elim
            | succ ki5 ih5 =>
              intro v5 s6 H locs ls hW hl h
              have h : lpB_M_clip_102 nn p0 Pe2 (lp_M_clip_102 nn p0 Pe2 ki5) v5 s6 := h
              unfold lpB_M_clip_102 at h
              refine lv_iload_n hx hb dM_clip_102 rfl (lv_at hl 0 rfl) ?_
              refine lv_aload_n hx hb dM_clip_103 rfl (lv_at hl 1 rfl) ?_
              refine k_get (ci := 8) (C := R_M) (T := T_M) (N := 32) hx hb hts (fun w q => gG_in (inG_M w q)) hown hK hW.1 27 rfl rfl 16 (by decide) (hts _ (gG_in mw_763)) rfl dM_clip_104 ?_
              obtain ⟨q35, h⟩ := h
              obtain ⟨q36, h⟩ := h
              obtain ⟨ht, hf⟩ := h
              refine ki_icmp_ge (tgt := 155) hx hb dM_clip_107 (by decide) q35 q36 (fun c11 => ?_) (fun c11 => ?_)
              · have h := ht c11
                exact xW5 v5 s6 _ _ ls hW (lv_sub hl [1] rfl) h
              · have h := hf c11
                refine lv_aload_n hx hb dM_clip_110 rfl (lv_at hl 1 rfl) ?_
                refine lv_iload_n hx hb dM_clip_111 rfl (lv_at hl 0 rfl) ?_
                obtain ⟨P7, g7, h⟩ := h
                refine kc_vp (As := [.int (iI v5)]) (rest := []) (ci := 8) (q0 := 27) S (c_M_placeOf l dC dI ad kc nn s6 v5 g7) (cwV 1 hts (gV mw_911 mw_913 ps_21 mw_10 k_M_placeOf) rfl rfl rfl (by decide +kernel) ⟨Nat.le_of_ble_eq_true rfl, Nat.le_of_ble_eq_true rfl⟩) hK hN hW.1 rfl rfl rfl hl.1 rfl (Nat.le_of_ble_eq_true rfl) dM_clip_112 ⟨Nat.zero_le _, Nat.zero_le _⟩ (fun r7 hp => ?_)
                have h := h r7 hp
                refine lv_istore_n (lv' := [(3, .int (iI r7)), (2, .int (iI v5)), (0, .ref (ad 27)), (1, .int (iI p0))]) hx hb dM_clip_115 rfl hl (by decide) rfl (fun ls hl => ?_)
                refine lv_iload_n hx hb dM_clip_116 rfl (lv_at hl 0 rfl) ?_
                refine lv_iconst (v := iI (-1)) hx hb dM_clip_117 rfl ?_
                obtain ⟨q37, h⟩ := h
                obtain ⟨ht, hf⟩ := h
                refine ki_icmp_eq (tgt := 149) hx hb dM_clip_118 (by decide) q37 (by constructor <;> decide) (fun c12 => ?_) (fun c12 => ?_)
                · have h := ht c12
                  obtain ⟨v24, ev24⟩ : ∃ z : Int, z = v5 + 1 := ⟨_, rfl⟩
                  refine lv_iinc (v := iI v24) (lv' := [(2, .int (iI v24)), (3, .int (iI r7)), (0, .ref (ad 27)), (1, .int (iI p0))]) hx hb dM_clip_149 hl (k := 1) rfl (by rw [ev24, ← iI_add]; rfl) (by decide) rfl (fun ls hl => ?_)
                  have h := h v24 ev24
                  refine lv_goto (tgt := 102) hx hb dM_clip_152 (by decide) ?_
                  exact ih5 v24 s6 _ _ ls hW (lv_sub hl [0, 2, 3] rfl) h
                · have h := hf c12
                  refine lv_iload_n hx hb dM_clip_121 rfl (lv_at hl 0 rfl) ?_
                  refine lv_iload_n hx hb dM_clip_122 rfl (lv_at hl 3 rfl) ?_
                  obtain ⟨q38, h⟩ := h
                  refine ki_div hx hb dM_clip_123 q38 ?_
                  refine lv_sipush (v := iI 2000) hx hb dM_clip_124 (by decide) ?_
                  obtain ⟨q39, h⟩ := h
                  obtain ⟨ht, hf⟩ := h
                  refine ki_icmp_gt (tgt := 149) hx hb dM_clip_127 (by decide) q39 (by constructor <;> decide) (fun c13 => ?_) (fun c13 => ?_)
                  · have h := ht c13
                    obtain ⟨v25, ev25⟩ : ∃ z : Int, z = v5 + 1 := ⟨_, rfl⟩
                    refine lv_iinc (v := iI v25) (lv' := [(2, .int (iI v25)), (3, .int (iI r7)), (0, .ref (ad 27)), (1, .int (iI p0))]) hx hb dM_clip_149 hl (k := 1) rfl (by rw [ev25, ← iI_add]; rfl) (by decide) rfl (fun ls hl => ?_)
                    have h := h v25 ev25
                    refine lv_goto (tgt := 102) hx hb dM_clip_152 (by decide) ?_
                    exact ih5 v25 s6 _ _ ls hW (lv_sub hl [0, 2, 3] rfl) h
                  · have h := hf c13
                    refine lv_aload_n hx hb dM_clip_130 rfl (lv_at hl 2 rfl) ?_
                    refine k_get (ci := 8) (C := R_M) (T := T_M) (N := 32) hx hb hts (fun w q => gG_in (inG_M w q)) hown hK hW.1 27 rfl rfl 23 (by decide) (hts _ (gG_in mw_770)) rfl dM_clip_131 ?_
                    refine lv_iload_n hx hb dM_clip_134 rfl (lv_at hl 0 rfl) ?_
                    refine lv_iload_n hx hb dM_clip_135 rfl (lv_at hl 3 rfl) ?_
                    obtain ⟨q40, h⟩ := h
                    refine ki_div hx hb dM_clip_136 q40 ?_
                    refine lv_dup2_11 hx hb dM_clip_137 rfl rfl ?_
                    obtain ⟨q41, h⟩ := h
                    refine k_iald hx hb hK hW.1 37 28 (s6 37) rfl rfl q41 dM_clip_138 ?_
                    refine lv_iconst (v := iI 1) hx hb dM_clip_139 rfl ?_
                    refine lv_aload_n hx hb dM_clip_140 rfl (lv_at hl 2 rfl) ?_
                    refine k_get (ci := 8) (C := R_M) (T := T_M) (N := 32) hx hb hts (fun w q => gG_in (inG_M w q)) hown hK hW.1 27 rfl rfl 15 (by decide) (hts _ (gG_in mw_762)) rfl dM_clip_141 ?_
                    refine lv_iload_n hx hb dM_clip_144 rfl (lv_at hl 1 rfl) ?_
                    obtain ⟨q42, h⟩ := h
                    refine k_iald hx hb hK hW.1 33 24 (s6 33) rfl rfl q42 dM_clip_145 ?_
                    refine ki_shl hx hb dM_clip_146 ?_
                    refine ki_or hx hb dM_clip_147 ?_
                    obtain ⟨q43, h⟩ := h
                    obtain ⟨s25, es25⟩ : ∃ z : kM, z = va_up s6 37 (va_up (s6 37) (r7 / p0).toNat (kOr (s6 37 (r7 / p0).toNat) (kShl 1 (s6 33 v5.toNat)))) := ⟨_, rfl⟩
                    refine k_iast (ws' := wC ad kc nn s25) hx hb hK hW 37 28 (s6 37) rfl rfl q43 (by rw [es25]; exact wC_a37 ..) dM_clip_148 (fun H locs hW => ?_)
                    have h := h s25 es25
                    obtain ⟨v26, ev26⟩ : ∃ z : Int, z = v5 + 1 := ⟨_, rfl⟩
                    refine lv_iinc (v := iI v26) (lv' := [(2, .int (iI v26)), (3, .int (iI r7)), (0, .ref (ad 27)), (1, .int (iI p0))]) hx hb dM_clip_149 hl (k := 1) rfl (by rw [ev26, ← iI_add]; rfl) (by decide) rfl (fun ls hl => ?_)
                    have h := h v26 ev26
                    refine lv_goto (tgt := 102) hx hb dM_clip_152 (by decide) ?_
                    exact ih5 v26 s25 _ _ ls hW (lv_sub hl [0, 2, 3] rfl) h
          exact lW5 k2 0 s5 _ _ ls hW (lv_sub hl [0, 1, 2] rfl) h
        have lW6 : ∀ (ki6 : Nat) (v3 : Int) (s4 : kM) (H : Heap) (locs : List Loc) (ls : Array Slot), kW (dC, dI) vwC A s.heap (wC ad kc nn s4) H locs → lv_has ls 4 [(2, .int (iI v3)), (0, .ref (ad 27)), (1, .int (iI p0))] → lp_M_clip_80 nn Pe1 ki6 v3 s4 → W p l e (headSpec ws_M_clip rm_M_clip).room s m args below meth c H locs 0 0 (MQ below (kQi (dC, dI) vwC (wC ad kc nn) P A) args s 0 0 A) (F0 m 80 ls []) := by
          intro ki6
          induction ki6 with
          | zero => intro v3 s4 H locs ls hW hl h; exact h.elim
          | succ ki6 ih6 =>
            intro v3 s4 H locs ls hW hl h
            have h : lpB_M_clip_80 nn Pe1 (lp_M_clip_80 nn Pe1 ki6) v3 s4 := h
            unfold lpB_M_clip_80 at h
            refine lv_iload_n hx hb dM_clip_80 rfl (lv_at hl 0 rfl) ?_
            refine lv_sipush (v := iI 2000) hx hb dM_clip_81 (by decide) ?_
            obtain ⟨q44, h⟩ := h
            obtain ⟨ht, hf⟩ := h
            refine ki_icmp_gt (tgt := 100) hx hb dM_clip_84 (by decide) q44 (by constructor <;> decide) (fun c14 => ?_) (fun c14 => ?_)
            · have h := ht c14
              exact xW6 v3 s4 _ _ ls hW (lv_sub hl [1, 2] rfl) h
            · have h := hf c14
              refine lv_aload_n hx hb dM_clip_87 rfl (lv_at hl 1 rfl) ?_
              refine k_get (ci := 8) (C := R_M) (T := T_M) (N := 32) hx hb hts (fun w q => gG_in (inG_M w q)) hown hK hW.1 27 rfl rfl 23 (by decide) (hts _ (gG_in mw_770)) rfl dM_clip_88 ?_
              refine lv_iload_n hx hb dM_clip_91 rfl (lv_at hl 0 rfl) ?_
              refine lv_iconst (v := iI 0) hx hb dM_clip_92 rfl ?_
              obtain ⟨q45, h⟩ := h
              obtain ⟨s26, es26⟩ : ∃ z : kM, z = va_up s4 37 (va_up (s4 37) v3.toNat 0) := ⟨_, rfl⟩
              refine k_iast (ws' := wC ad kc nn s26) hx hb hK hW 37 28 (s4 37) rfl rfl q45 (by rw [es26]; exact wC_a37 ..) dM_clip_93 (fun H locs hW => ?_)
              have h := h s26 es26
              obtain ⟨v27, ev27⟩ : ∃ z : Int, z = v3 + 1 := ⟨_, rfl⟩
              refine lv_iinc (v := iI v27) (lv' := [(2, .int (iI v27)), (0, .ref (ad 27)), (1, .int (iI p0))]) hx hb dM_clip_94 hl (k := 0) rfl (by rw [ev27, ← iI_add]; rfl) (by decide) rfl (fun ls hl => ?_)
              have h := h v27 ev27
              refine lv_goto (tgt := 80) hx hb dM_clip_97 (by decide) ?_
              exact ih6 v27 s26 _ _ ls hW (lv_sub hl [0, 1, 2] rfl) h
        exact lW6 k1 0 s3 _ _ ls hW (lv_sub hl [0, 1, 2] rfl) h
      obtain ⟨ht, hf⟩ := h
      refine ki_icmp_le (tgt := 71) hx hb dM_clip_62 (by decide) q4 (by constructor <;> decide) (fun c15 => ?_) (fun c15 => ?_)
      · have h := ht c15
        refine lv_aload_n hx hb dM_clip_71 rfl (lv_at hl 0 rfl) ?_
        refine k_get (ci := 8) (C := R_M) (T := T_M) (N := 32) hx hb hts (fun w q => gG_in (inG_M w q)) hown hK hW.1 27 rfl rfl 22 (by decide) (hts _ (gG_in mw_769)) rfl dM_clip_72 ?_
        exact jW1 (s2 27 22) _ _ ls hW (lv_sub hl [0, 1] rfl) h
      · have h := hf c15
        refine lv_sipush (v := iI 2000) hx hb dM_clip_65 (by decide) ?_
        refine lv_goto (tgt := 75) hx hb dM_clip_68 (by decide) ?_
        exact jW1 2000 _ _ ls hW (lv_sub hl [0, 1] rfl) h
    · have h := hf c1
      refine lv_iconst (v := iI 0) hx hb dM_clip_38 rfl ?_
      exact k_iret hx hb hr hlocks hW dM_clip_39 h
  obtain ⟨ht, hf⟩ := h
  refine ki_if_ne (tgt := 16) hx hb dM_clip_9 (by decide) q1 (fun c16 => ?_) (fun c16 => ?_)
  · have h := ht c16
    refine lv_aload_n hx hb dM_clip_16 rfl (lv_at hl 0 rfl) ?_
    refine k_get (ci := 8) (C := R_M) (T := T_M) (N := 32) hx hb hts (fun w q => gG_in (inG_M w q)) hown hK hW.1 27 rfl rfl 9 (by decide) (hts _ (gG_in mw_756)) rfl dM_clip_17 ?_
    obtain ⟨q46, h⟩ := h
    obtain ⟨ht, hf⟩ := h
    refine ki_if_eq (tgt := 27) hx hb dM_clip_20 (by decide) q46 (fun c17 => ?_) (fun c17 => ?_)
    · have h := ht c17
      refine lv_iconst (v := iI 2) hx hb dM_clip_27 rfl ?_
      exact jW2 2 _ _ ls hW (lv_sub hl [0, 1] rfl) h
    · have h := hf c17
      refine lv_iconst (v := iI 0) hx hb dM_clip_23 rfl ?_
      refine lv_goto (tgt := 28) hx hb dM_clip_24 (by decide) ?_
      exact jW2 0 _ _ ls hW (lv_sub hl [0, 1] rfl) h
  · have h := hf c16
    refine lv_iconst (v := iI 1) hx hb dM_clip_12 rfl ?_
    refine lv_goto (tgt := 28) hx hb dM_clip_13 (by decide) ?_
    exact jW2 1 _ _ ls hW (lv_sub hl [0, 1] rfl) h
