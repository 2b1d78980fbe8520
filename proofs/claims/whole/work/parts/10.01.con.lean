abbrev rm_A_keep : Room := { frames := 0, cells := 0, slots := 0, locals := 0 }
set_option maxHeartbeats 4000000 in
set_option maxRecDepth 100000 in
theorem c_A_keep (l : Launch) (dC : Nat → ClassId) (dI : Nat → Nat → Nat) (ad : Nat → Nat) (kc : Nat → ClassId) (nn : Nat → Nat) (σ : kM) (p0 : Int) (p1 : Int) (p2 : Int) (p3 : Int) (p4 : Int) {P : kM → Prop} (h : wp_A_keep nn σ p0 p1 p2 p3 p4 P) : kMv l y_A_keep ws_A_keep rm_A_keep (dC, dI) vwC (tyC kc) (wC ad kc nn) nsG σ [.ref (ad 2), .int (iI p0), .int (iI p1), .int (iI p2), .int (iI p3), .int (iI p4)] P := by
  intro sz
  refine k_enter (cc := b_A_keep) (maxL := 6) (ret := none) (by decide) rfl (Nat.le_of_ble_eq_true rfl) ?_
  intro p e s m below meth c ls S hr hlocks hsz hA hW hK hN hl
  generalize va_A ((wC ad kc nn) σ) sz = A at hA hW ⊢
  generalize ([.ref (ad 2), .int (iI p0), .int (iI p1), .int (iI p2), .int (iI p3), .int (iI p4)] : List Value).toArray = args at S ⊢
  obtain ⟨hx, hb, hml, hown, hts⟩ := id S
  have hl : lv_has ls 6 [(0, .ref (ad 2)), (1, .int (iI p0)), (2, .int (iI p1)), (3, .int (iI p2)), (4, .int (iI p3)), (5, .int (iI p4))] := hl
  unfold wp_A_keep at h
  refine lv_aload_n hx hb dA_keep_0 rfl (lv_at hl 0 rfl) ?_
  refine lv_iload_n hx hb dA_keep_1 rfl (lv_at hl 1 rfl) ?_
  obtain ⟨s1, es1⟩ : ∃ z : kM, z = va_up σ 2 (va_up (σ 2) 4 p0) := ⟨_, rfl⟩
  refine k_put (ty := .int) (ws' := wC ad kc nn s1) (ci := 2) (C := R_A) (T := T_A) (N := 6) hx hb hts (fun w q => gG_in (inG_A w q)) ty_A tk_A nm_A hown hK hW 2 rfl rfl 4 (by decide) (hts _ (gG_in mw_89)) rfl (by decide +kernel) rfl rfl (Nat.le_of_ble_eq_true rfl) (by rw [es1]; exact wC_p2_4 ..) dA_keep_2 (fun H locs hW => ?_)
  have h := h s1 es1
  refine lv_aload_n hx hb dA_keep_5 rfl (lv_at hl 0 rfl) ?_
  refine k_get (ci := 2) (C := R_A) (T := T_A) (N := 6) hx hb hts (fun w q => gG_in (inG_A w q)) hown hK hW.1 2 rfl rfl 3 (by decide) (hts _ (gG_in mw_88)) rfl dA_keep_6 ?_
  refine lv_iconst (v := iI 0) hx hb dA_keep_9 rfl ?_
  refine lv_iload_n hx hb dA_keep_10 rfl (lv_at hl 2 rfl) ?_
  obtain ⟨s2, es2⟩ : ∃ z : kM, z = va_up s1 12 (va_up (s1 12) 0 p1) := ⟨_, rfl⟩
  refine k_iast (ws' := wC ad kc nn s2) hx hb hK hW 12 4 (s1 12) rfl rfl ⟨by decide, by decide, by decide⟩ (by rw [es2]; exact wC_a12 ..) dA_keep_11 (fun H locs hW => ?_)
  have h := h s2 es2
  refine lv_aload_n hx hb dA_keep_12 rfl (lv_at hl 0 rfl) ?_
  refine k_get (ci := 2) (C := R_A) (T := T_A) (N := 6) hx hb hts (fun w q => gG_in (inG_A w q)) hown hK hW.1 2 rfl rfl 3 (by decide) (hts _ (gG_in mw_88)) rfl dA_keep_13 ?_
  refine lv_iconst (v := iI 1) hx hb dA_keep_16 rfl ?_
  refine lv_iload_n hx hb dA_keep_17 rfl (lv_at hl 3 rfl) ?_
  obtain ⟨s3, es3⟩ : ∃ z : kM, z = va_up s2 12 (va_up (s2 12) 1 p2) := ⟨_, rfl⟩
  refine k_iast (ws' := wC ad kc nn s3) hx hb hK hW 12 4 (s2 12) rfl rfl ⟨by decide, by decide, by decide⟩ (by rw [es3]; exact wC_a12 ..) dA_keep_18 (fun H locs hW => ?_)
  have h := h s3 es3
  refine lv_aload_n hx hb dA_keep_19 rfl (lv_at hl 0 rfl) ?_
  refine k_get (ci := 2) (C := R_A) (T := T_A) (N := 6) hx hb hts (fun w q => gG_in (inG_A w q)) hown hK hW.1 2 rfl rfl 3 (by decide) (hts _ (gG_in mw_88)) rfl dA_keep_20 ?_
  refine lv_iconst (v := iI 2) hx hb dA_keep_23 rfl ?_
  refine lv_iload hx hb dA_keep_24 (lv_at hl 4 rfl) ?_
  obtain ⟨s4, es4⟩ : ∃ z : kM, z = va_up s3 12 (va_up (s3 12) 2 p3) := ⟨_, rfl⟩
  refine k_iast (ws' := wC ad kc nn s4) hx hb hK hW 12 4 (s3 12) rfl rfl ⟨by decide, by decide, by decide⟩ (by rw [es4]; exact wC_a12 ..) dA_keep_26 (fun H locs hW => ?_)
  have h := h s4 es4
  refine lv_aload_n hx hb dA_keep_27 rfl (lv_at hl 0 rfl) ?_
  refine k_get (ci := 2) (C := R_A) (T := T_A) (N := 6) hx hb hts (fun w q => gG_in (inG_A w q)) hown hK hW.1 2 rfl rfl 3 (by decide) (hts _ (gG_in mw_88)) rfl dA_keep_28 ?_
  refine lv_iconst (v := iI 3) hx hb dA_keep_31 rfl ?_
  refine lv_iload hx hb dA_keep_32 (lv_at hl 5 rfl) ?_
  obtain ⟨s5, es5⟩ : ∃ z : kM, z = va_up s4 12 (va_up (s4 12) 3 p4) := ⟨_, rfl⟩
  refine k_iast (ws' := wC ad kc nn s5) hx hb hK hW 12 4 (s4 12) rfl rfl ⟨by decide, by decide, by decide⟩ (by rw [es5]; exact wC_a12 ..) dA_keep_34 (fun H locs hW => ?_)
  have h := h s5 es5
  exact k_vret hx hb hr hlocks hW dA_keep_35 h
abbrev rm_S_nearestAt : Room := { frames := 0, cells := 0, slots := 0, locals := 0 }
set_option maxHeartbeats 4000000 in
set_option maxRecDepth 100000 in
theorem c_S_nearestAt (l : Launch) (dC : Nat → ClassId) (dI : Nat → Nat → Nat) (ad : Nat → Nat) (kc : Nat → ClassId) (nn : Nat → Nat) (σ : kM) (p0 : Int) (p1 : Int) (p2 : Int) {P : Int → Prop} (h : wp_S_nearestAt nn σ p0 p1 p2 P) : kMp l y_S_nearestAt ws_S_nearestAt rm_S_nearestAt (dC, dI) vwC (tyC kc) (wC ad kc nn) nsG σ [.ref (ad 1), .int (iI p0), .int (iI p1), .int (iI p2)] P := by
  refine k_enterP (cc := b_S_nearestAt) (maxL := 4) (ret := (some .int)) (by decide) rfl (Nat.le_of_ble_eq_true rfl) ?_
  intro p e s m below meth c ls S hr hlocks hP hK hN hl
  generalize ([.ref (ad 1), .int (iI p0), .int (iI p1), .int (iI p2)] : List Value).toArray = args at S ⊢
  obtain ⟨hx, hb, hml, hown, hts⟩ := id S
  have hl : lv_has ls 4 [(0, .ref (ad 1)), (1, .int (iI p0)), (2, .int (iI p1)), (3, .int (iI p2))] := hl
  unfold wp_S_nearestAt at h
  refine lv_aload_n hx hb dS_nearestAt_0 rfl (lv_at hl 0 rfl) ?_
  refine k_get (ci := 1) (C := R_S) (T := T_S) (N := 9) hx hb hts (fun w q => gG_in (inG_S w q)) hown hK hP 1 rfl rfl 6 (by decide) (hts _ (gG_in mw_47)) rfl dS_nearestAt_1 ?_
  refine lv_iload_n hx hb dS_nearestAt_4 rfl (lv_at hl 1 rfl) ?_
  refine lv_aload_n hx hb dS_nearestAt_5 rfl (lv_at hl 0 rfl) ?_
  refine k_get (ci := 1) (C := R_S) (T := T_S) (N := 9) hx hb hts (fun w q => gG_in (inG_S w q)) hown hK hP 1 rfl rfl 3 (by decide) (hts _ (gG_in mw_44)) rfl dS_nearestAt_6 ?_
  refine ki_mul hx hb dS_nearestAt_9 ?_
  refine lv_iload_n hx hb dS_nearestAt_10 rfl (lv_at hl 3 rfl) ?_
  refine ki_add hx hb dS_nearestAt_11 ?_
  refine lv_aload_n hx hb dS_nearestAt_12 rfl (lv_at hl 0 rfl) ?_
  refine k_get (ci := 1) (C := R_S) (T := T_S) (N := 9) hx hb hts (fun w q => gG_in (inG_S w q)) hown hK hP 1 rfl rfl 3 (by decide) (hts _ (gG_in mw_44)) rfl dS_nearestAt_13 ?_
  refine ki_mul hx hb dS_nearestAt_16 ?_
  refine lv_iload_n hx hb dS_nearestAt_17 rfl (lv_at hl 2 rfl) ?_
  refine ki_add hx hb dS_nearestAt_18 ?_
  obtain ⟨q1, h⟩ := h
  refine k_iald hx hb hK hP 9 1 (σ 9) rfl rfl q1 dS_nearestAt_19 ?_
  exact k_iretP hx hb hr hlocks dS_nearestAt_20 h
abbrev rm_S_count : Room := { frames := 0, cells := 0, slots := 0, locals := 0 }
set_option maxHeartbeats 4000000 in
set_option maxRecDepth 100000 in
theorem c_S_count (l : Launch) (dC : Nat → ClassId) (dI : Nat → Nat → Nat) (ad : Nat → Nat) (kc : Nat → ClassId) (nn : Nat → Nat) (σ : kM) {P : Int → Prop} (h : wp_S_count nn σ P) : kMp l y_S_count ws_S_count rm_S_count (dC, dI) vwC (tyC kc) (wC ad kc nn) nsG σ [.ref (ad 1)] P := by
  refine k_enterP (cc := b_S_count) (maxL := 1) (ret := (some .int)) (by decide) rfl (Nat.le_of_ble_eq_true rfl) ?_
  intro p e s m below meth c ls S hr hlocks hP hK hN hl
  generalize ([.ref (ad 1)] : List Value).toArray = args at S ⊢
  obtain ⟨hx, hb, hml, hown, hts⟩ := id S
  have hl : lv_has ls 1 [(0, .ref (ad 1))] := hl
  unfold wp_S_count at h
  refine lv_aload_n hx hb dS_count_0 rfl (lv_at hl 0 rfl) ?_
  refine k_get (ci := 1) (C := R_S) (T := T_S) (N := 9) hx hb hts (fun w q => gG_in (inG_S w q)) hown hK hP 1 rfl rfl 0 (by decide) (hts _ (gG_in mw_41)) rfl dS_count_1 ?_
  exact k_iretP hx hb hr hlocks dS_count_4 h
abbrev rm_A_placeAt : Room := { frames := 0, cells := 0, slots := 0, locals := 0 }
set_option maxHeartbeats 4000000 in
set_option maxRecDepth 100000 in
theorem c_A_placeAt (l : Launch) (dC : Nat → ClassId) (dI : Nat → Nat → Nat) (ad : Nat → Nat) (kc : Nat → ClassId) (nn : Nat → Nat) (σ : kM) (p0 : Int) (p1 : Int) (p2 : Int) {P : Int → Prop} (h : wp_A_placeAt nn σ p0 p1 p2 P) : kMp l y_A_placeAt ws_A_placeAt rm_A_placeAt (dC, dI) vwC (tyC kc) (wC ad kc nn) nsG σ [.ref (ad 2), .int (iI p0), .int (iI p1), .int (iI p2)] P := by
  refine k_enterP (cc := b_A_placeAt) (maxL := 4) (ret := (some .int)) (by decide) rfl (Nat.le_of_ble_eq_true rfl) ?_
  intro p e s m below meth c ls S hr hlocks hP hK hN hl
  generalize ([.ref (ad 2), .int (iI p0), .int (iI p1), .int (iI p2)] : List Value).toArray = args at S ⊢
  obtain ⟨hx, hb, hml, hown, hts⟩ := id S
  have hl : lv_has ls 4 [(0, .ref (ad 2)), (1, .int (iI p0)), (2, .int (iI p1)), (3, .int (iI p2))] := hl
  unfold wp_A_placeAt at h
  refine lv_iload_n hx hb dA_placeAt_0 rfl (lv_at hl 2 rfl) ?_
  refine lv_aload_n hx hb dA_placeAt_1 rfl (lv_at hl 0 rfl) ?_
  refine k_get (ci := 2) (C := R_A) (T := T_A) (N := 6) hx hb hts (fun w q => gG_in (inG_A w q)) hown hK hP 2 rfl rfl 2 (by decide) (hts _ (gG_in mw_87)) rfl dA_placeAt_2 ?_
  refine ki_mul hx hb dA_placeAt_5 ?_
  refine lv_iload_n hx hb dA_placeAt_6 rfl (lv_at hl 3 rfl) ?_
  refine lv_iload_n hx hb dA_placeAt_7 rfl (lv_at hl 2 rfl) ?_
  refine ki_sub hx hb dA_placeAt_8 ?_
  refine lv_iload_n hx hb dA_placeAt_9 rfl (lv_at hl 1 rfl) ?_
  refine ki_mul hx hb dA_placeAt_10 ?_
  refine ki_add hx hb dA_placeAt_11 ?_
  exact k_iretP hx hb hr hlocks dA_placeAt_12 h
abbrev rm_A_roomAbove : Room := { frames := 1, cells := 0, slots := 0, locals := 23 }
set_option maxHeartbeats 4000000 in
set_option maxRecDepth 100000 in
theorem c_A_roomAbove (l : Launch) (dC : Nat → ClassId) (dI : Nat → Nat → Nat) (ad : Nat → Nat) (kc : Nat → ClassId) (nn : Nat → Nat) (σ : kM) (p0 : Int) (p1 : Int) (p2 : Int) (p3 : Int) (p4 : Int) {P : Int → Prop} (h : wp_A_roomAbove nn σ p0 p1 p2 p3 p4 P) : kMp l y_A_roomAbove ws_A_roomAbove rm_A_roomAbove (dC, dI) vwC (tyC kc) (wC ad kc nn) nsG σ [.ref (ad 2), .int (iI p0), .int (iI p1), .int (iI p2), .int (iI p3), .int (iI p4)] P := by
  refine k_enterP (cc := b_A_roomAbove) (maxL := 10) (ret := (some .int)) (by decide) rfl (Nat.le_of_ble_eq_true rfl) ?_
  intro p e s m below meth c ls S hr hlocks hP hK hN hl
  generalize ([.ref (ad 2), .int (iI p0), .int (iI p1), .int (iI p2), .int (iI p3), .int (iI p4)] : List Value).toArray = args at S ⊢
  obtain ⟨hx, hb, hml, hown, hts⟩ := id S
  have hl : lv_has ls 10 [(0, .ref (ad 2)), (1, .int (iI p0)), (2, .int (iI p1)), (3, .int (iI p2)), (4, .int (iI p3)), (5, .int (iI p4))] := hl
  unfold wp_A_roomAbove at h
  refine lv_ldc (v := iI 2147483647) hx hb hown (hts _ (gG_in mc_295)) dA_roomAbove_0 ?_
  refine lv_istore (lv' := [(6, .int (iI 2147483647)), (0, .ref (ad 2)), (1, .int (iI p0)), (2, .int (iI p1)), (3, .int (iI p2)), (4, .int (iI p3)), (5, .int (iI p4))]) hx hb dA_roomAbove_2 hl (by decide) rfl (fun ls hl => ?_)
  refine lv_aload_n hx hb dA_roomAbove_4 rfl (lv_at hl 1 rfl) ?_
  refine k_get (ci := 2) (C := R_A) (T := T_A) (N := 6) hx hb hts (fun w q => gG_in (inG_A w q)) hown hK hP 2 rfl rfl 0 (by decide) (hts _ (gG_in mw_85)) rfl dA_roomAbove_5 ?_
  refine kc_vp (As := []) (rest := []) (ci := 1) (q0 := 1) S (c_S_count l dC dI ad kc nn σ (P := fun r => (σ 1 0) = r) rfl) (cwV 0 hts (gV mw_296 mw_297 mw_298 mw_2 k_S_count) rfl rfl rfl (by decide +kernel) ⟨Nat.le_of_ble_eq_true rfl, Nat.le_of_ble_eq_true rfl⟩) hK hN hP rfl rfl rfl hl.1 rfl (Nat.le_of_ble_eq_true rfl) dA_roomAbove_8 ⟨Nat.zero_le _, Nat.zero_le _⟩ (fun r1 hp => ?_)
  subst hp
  refine lv_iconst (v := iI 1) hx hb dA_roomAbove_11 rfl ?_
  refine ki_sub hx hb dA_roomAbove_12 ?_
  refine ki_nm (fun v1 ev1 => ?_)
  have h := h v1 ev1
  refine lv_istore (lv' := [(7, .int (iI v1)), (6, .int (iI 2147483647)), (0, .ref (ad 2)), (1, .int (iI p0)), (2, .int (iI p1)), (3, .int (iI p2)), (4, .int (iI p3)), (5, .int (iI p4))]) hx hb dA_roomAbove_13 hl (by decide) rfl (fun ls hl => ?_)
  obtain ⟨Pe1, k1, h, hk1⟩ := h
  have xW1 : ∀ (v4 : Int) (v5 : Int) (ls : Array Slot), lv_has ls 10 [(6, .int (iI v5))] → Pe1 v4 v5 → W p l e (headSpec ws_A_roomAbove rm_A_roomAbove).room s m args below meth c s.heap [] 0 0 (MQ below (kQp P) args s 0 0 (fun _ => False)) (F0 m 74 ls []) := by
    intro v4 v5 ls hl h
    have h := hk1 v4 v5 h
    refine lv_iload hx hb dA_roomAbove_74 (lv_at hl 0 rfl) ?_
    exact k_iretP hx hb hr hlocks dA_roomAbove_76 h
  have lW1 : ∀ (ki1 : Nat) (v2 : Int) (v3 : Int) (ls : Array Slot), lv_has ls 10 [(7, .int (iI v2)), (6, .int (iI v3)), (0, .ref (ad 2)), (1, .int (iI p0)), (2, .int (iI p1)), (3, .int (iI p2)), (4, .int (iI p3)), (5, .int (iI p4))] → lp_A_roomAbove_15 nn p0 p1 p2 p3 p4 σ Pe1 ki1 v2 v3 → W p l e (headSpec ws_A_roomAbove rm_A_roomAbove).room s m args below meth c s.heap [] 0 0 (MQ below (kQp P) args s 0 0 (fun _ => False)) (F0 m 15 ls []) := by
    intro ki1
    induction ki1 with
    | zero => intro v2 v3 ls hl h; exact h.elim
    | succ ki1 ih1 =>
      intro v2 v3 ls hl h
      have h : lpB_A_roomAbove_15 nn p0 p1 p2 p3 p4 σ Pe1 (lp_A_roomAbove_15 nn p0 p1 p2 p3 p4 σ Pe1 ki1) v2 v3 := h
      unfold lpB_A_roomAbove_15 at h
      refine lv_iload hx hb dA_roomAbove_15 (lv_at hl 0 rfl) ?_
      obtain ⟨q1, h⟩ := h
      obtain ⟨ht, hf⟩ := h
      refine ki_if_lt (tgt := 74) hx hb dA_roomAbove_17 (by decide) q1 (fun c1 => ?_) (fun c1 => ?_)
      · have h := ht c1
        exact xW1 v2 v3 ls (lv_sub hl [1] rfl) h
      · have h := hf c1
        refine lv_iload hx hb dA_roomAbove_20 (lv_at hl 1 rfl) ?_
        refine lv_iload_n hx hb dA_roomAbove_22 rfl (lv_at hl 3 rfl) ?_
        obtain ⟨q2, h⟩ := h
        obtain ⟨q3, h⟩ := h
        obtain ⟨ht, hf⟩ := h
        refine ki_icmp_le (tgt := 74) hx hb dA_roomAbove_23 (by decide) q2 q3 (fun c2 => ?_) (fun c2 => ?_)
        · have h := ht c2
          exact xW1 v2 v3 ls (lv_sub hl [1] rfl) h
        · have h := hf c2
          refine lv_aload_n hx hb dA_roomAbove_26 rfl (lv_at hl 2 rfl) ?_
          refine lv_iload hx hb dA_roomAbove_27 (lv_at hl 0 rfl) ?_
          refine lv_iload_n hx hb dA_roomAbove_29 rfl (lv_at hl 4 rfl) ?_
          refine lv_iload hx hb dA_roomAbove_30 (lv_at hl 6 rfl) ?_
          refine kc_vp (As := [.int (iI v2), .int (iI p1), .int (iI p3)]) (rest := []) (ci := 2) (q0 := 2) S (c_A_placeAt l dC dI ad kc nn σ v2 p1 p3 (P := fun r => ((p1 * (σ 2 2)) + ((p3 - p1) * v2)) = r) rfl) (cwV 3 hts (gV mw_300 mw_302 ps_10 mw_4 k_A_placeAt) rfl rfl rfl (by decide +kernel) ⟨Nat.le_of_ble_eq_true rfl, Nat.le_of_ble_eq_true rfl⟩) hK hN hP rfl rfl rfl hl.1 rfl (Nat.le_of_ble_eq_true rfl) dA_roomAbove_32 ⟨Nat.zero_le _, Nat.zero_le _⟩ (fun r2 hp => ?_)
          subst hp
          refine ki_nm (fun v6 ev6 => ?_)
          have h := h v6 ev6
          refine lv_istore (lv' := [(8, .int (iI v6)), (7, .int (iI v2)), (6, .int (iI v3)), (0, .ref (ad 2)), (1, .int (iI p0)), (2, .int (iI p1)), (3, .int (iI p2)), (4, .int (iI p3)), (5, .int (iI p4))]) hx hb dA_roomAbove_35 hl (by decide) rfl (fun ls hl => ?_)
          refine lv_aload_n hx hb dA_roomAbove_37 rfl (lv_at hl 3 rfl) ?_
          refine lv_iload hx hb dA_roomAbove_38 (lv_at hl 1 rfl) ?_
          refine lv_iload_n hx hb dA_roomAbove_40 rfl (lv_at hl 6 rfl) ?_
          refine lv_iload hx hb dA_roomAbove_41 (lv_at hl 8 rfl) ?_
          refine kc_vp (As := [.int (iI v2), .int (iI p2), .int (iI p4)]) (rest := []) (ci := 2) (q0 := 2) S (c_A_placeAt l dC dI ad kc nn σ v2 p2 p4 (P := fun r => ((p2 * (σ 2 2)) + ((p4 - p2) * v2)) = r) rfl) (cwV 3 hts (gV mw_300 mw_302 ps_10 mw_4 k_A_placeAt) rfl rfl rfl (by decide +kernel) ⟨Nat.le_of_ble_eq_true rfl, Nat.le_of_ble_eq_true rfl⟩) hK hN hP rfl rfl rfl hl.1 rfl (Nat.le_of_ble_eq_true rfl) dA_roomAbove_43 ⟨Nat.zero_le _, Nat.zero_le _⟩ (fun r3 hp => ?_)
          subst hp
          refine ki_nm (fun v7 ev7 => ?_)
          have h := h v7 ev7
          refine lv_istore (lv' := [(9, .int (iI v7)), (8, .int (iI v6)), (7, .int (iI v2)), (6, .int (iI v3)), (0, .ref (ad 2)), (1, .int (iI p0)), (2, .int (iI p1)), (3, .int (iI p2)), (4, .int (iI p3)), (5, .int (iI p4))]) hx hb dA_roomAbove_46 hl (by decide) rfl (fun ls hl => ?_)
          refine lv_iload hx hb dA_roomAbove_48 (lv_at hl 3 rfl) ?_
          refine lv_aload_n hx hb dA_roomAbove_50 rfl (lv_at hl 4 rfl) ?_
          refine k_get (ci := 2) (C := R_A) (T := T_A) (N := 6) hx hb hts (fun w q => gG_in (inG_A w q)) hown hK hP 2 rfl rfl 0 (by decide) (hts _ (gG_in mw_85)) rfl dA_roomAbove_51 ?_
          refine lv_iload hx hb dA_roomAbove_54 (lv_at hl 2 rfl) ?_
          refine lv_iload hx hb dA_roomAbove_56 (lv_at hl 1 rfl) ?_
          refine lv_iload hx hb dA_roomAbove_58 (lv_at hl 0 rfl) ?_
          obtain ⟨P1, g1, h⟩ := h
          refine kc_vp (As := [.int (iI v2), .int (iI v6), .int (iI v7)]) (rest := [.int (iI v3)]) (ci := 1) (q0 := 1) S (c_S_nearestAt l dC dI ad kc nn σ v2 v6 v7 g1) (cwV 3 hts (gV mw_283 mw_284 mw_285 mw_2 k_S_nearestAt) rfl rfl rfl (by decide +kernel) ⟨Nat.le_of_ble_eq_true rfl, Nat.le_of_ble_eq_true rfl⟩) hK hN hP rfl rfl rfl hl.1 rfl (Nat.le_of_ble_eq_true rfl) dA_roomAbove_60 ⟨Nat.zero_le _, Nat.zero_le _⟩ (fun r4 hp => ?_)
          have h := h r4 hp
          obtain ⟨q4, h⟩ := h
          obtain ⟨q5, h⟩ := h
          refine kmn hx hb (hml.trans hl.1.symm) hown (hts _ (gG_in mw_304)) (hts _ (gG_in mw_31)) (hts _ (gG_in mw_3)) (hts _ (gG_in mk_min)) ⟨Nat.le_of_ble_eq_true rfl, Nat.le_of_ble_eq_true rfl⟩ ⟨Nat.zero_le _, Nat.zero_le _⟩ q4 q5 dA_roomAbove_63 ?_
          refine ki_nm (fun v8 ev8 => ?_)
          have h := h v8 ev8
          refine lv_istore (lv' := [(6, .int (iI v8)), (9, .int (iI v7)), (8, .int (iI v6)), (7, .int (iI v2)), (0, .ref (ad 2)), (1, .int (iI p0)), (2, .int (iI p1)), (3, .int (iI p2)), (4, .int (iI p3)), (5, .int (iI p4))]) hx hb dA_roomAbove_66 hl (by decide) rfl (fun ls hl => ?_)
          obtain ⟨v9, ev9⟩ : ∃ z : Int, z = v2 + (-1) := ⟨_, rfl⟩
          refine lv_iinc (v := iI v9) (lv' := [(7, .int (iI v9)), (6, .int (iI v8)), (9, .int (iI v7)), (8, .int (iI v6)), (0, .ref (ad 2)), (1, .int (iI p0)), (2, .int (iI p1)), (3, .int (iI p2)), (4, .int (iI p3)), (5, .int (iI p4))]) hx hb dA_roomAbove_68 hl (k := 3) rfl (by rw [ev9, ← iI_add]; rfl) (by decide) rfl (fun ls hl => ?_)
          have h := h v9 ev9
          refine lv_goto (tgt := 15) hx hb dA_roomAbove_71 (by decide) ?_
          exact ih1 v9 v8 ls (lv_sub hl [0, 1, 4, 5, 6, 7, 8, 9] rfl) h
  exact lW1 k1 v1 2147483647 ls (lv_sub hl [0, 1, 2, 3, 4, 5, 6, 7] rfl) h
abbrev rm_A_seekFrom : Room := { frames := 2, cells := 0, slots := 0, locals := 52 }
set_option maxHeartbeats 4000000 in
set_option maxRecDepth 100000 in
theorem c_A_seekFrom (l : Launch) (dC : Nat → ClassId) (dI : Nat → Nat → Nat) (ad : Nat → Nat) (kc : Nat → ClassId) (nn : Nat → Nat) (σ : kM) (p0 : Int) (p1 : Int) {P : kM → Prop} (h : wp_A_seekFrom nn σ p0 p1 P) : kMv l y_A_seekFrom ws_A_seekFrom rm_A_seekFrom (dC, dI) vwC (tyC kc) (wC ad kc nn) nsG σ [.ref (ad 2), .int (iI p0), .int (iI p1)] P := by
  intro sz
  refine k_enter (cc := b_A_seekFrom) (maxL := 6) (ret := none) (by decide) rfl (Nat.le_of_ble_eq_true rfl) ?_
  intro p e s m below meth c ls S hr hlocks hsz hA hW hK hN hl
  generalize va_A ((wC ad kc nn) σ) sz = A at hA hW ⊢
  generalize ([.ref (ad 2), .int (iI p0), .int (iI p1)] : List Value).toArray = args at S ⊢
  obtain ⟨hx, hb, hml, hown, hts⟩ := id S
  have hl : lv_has ls 6 [(0, .ref (ad 2)), (1, .int (iI p0)), (2, .int (iI p1))] := hl
  unfold wp_A_seekFrom at h
  refine lv_iconst (v := iI 0) hx hb dA_seekFrom_0 rfl ?_
  refine lv_istore_n (lv' := [(3, .int (iI 0)), (0, .ref (ad 2)), (1, .int (iI p0)), (2, .int (iI p1))]) hx hb dA_seekFrom_1 rfl hl (by decide) rfl (fun ls hl => ?_)
  obtain ⟨Pe1, k1, h, hk1⟩ := h
  have xW1 : ∀ (v2 : Int) (s2 : kM) (H : Heap) (locs : List Loc) (ls : Array Slot), kW (dC, dI) vwC A s.heap (wC ad kc nn s2) H locs → lv_has ls 6 [] → Pe1 v2 s2 → W p l e (headSpec ws_A_seekFrom rm_A_seekFrom).room s m args below meth c H locs 0 0 (MQ below (kQv (dC, dI) vwC (wC ad kc nn) P A) args s 0 0 A) (F0 m 69 ls []) := by
    intro v2 s2 H locs ls hW hl h
    have h := hk1 v2 s2 h
    exact k_vret hx hb hr hlocks hW dA_seekFrom_69 h
  have lW2 : ∀ (ki2 : Nat) (v1 : Int) (s1 : kM) (H : Heap) (locs : List Loc) (ls : Array Slot), kW (dC, dI) vwC A s.heap (wC ad kc nn s1) H locs → lv_has ls 6 [(3, .int (iI v1)), (0, .ref (ad 2)), (1, .int (iI p0)), (2, .int (iI p1))] → lp_A_seekFrom_2 nn p0 p1 Pe1 ki2 v1 s1 → W p l e (headSpec ws_A_seekFrom rm_A_seekFrom).room s m args below meth c H locs 0 0 (MQ below (kQv (dC, dI) vwC (wC ad kc nn) P A) args s 0 0 A) (F0 m 2 ls []) := by
    intro ki2
    induction ki2 with
    | zero => intro v1 s1 H locs ls hW hl h; exact h.elim
    | succ ki2 ih2 =>
      intro v1 s1 H locs ls hW hl h
      have h : lpB_A_seekFrom_2 nn p0 p1 Pe1 (lp_A_seekFrom_2 nn p0 p1 Pe1 ki2) v1 s1 := h
      unfold lpB_A_seekFrom_2 at h
      refine lv_iload_n hx hb dA_seekFrom_2 rfl (lv_at hl 0 rfl) ?_
      refine lv_aload_n hx hb dA_seekFrom_3 rfl (lv_at hl 1 rfl) ?_
      refine k_get (ci := 2) (C := R_A) (T := T_A) (N := 6) hx hb hts (fun w q => gG_in (inG_A w q)) hown hK hW.1 2 rfl rfl 1 (by decide) (hts _ (gG_in mw_86)) rfl dA_seekFrom_4 ?_
      obtain ⟨q1, h⟩ := h
      obtain ⟨q2, h⟩ := h
      obtain ⟨ht, hf⟩ := h
      refine ki_icmp_gt (tgt := 69) hx hb dA_seekFrom_7 (by decide) q1 q2 (fun c1 => ?_) (fun c1 => ?_)
      · have h := ht c1
        exact xW1 v1 s1 _ _ ls hW (lv_sub hl [] rfl) h
      · have h := hf c1
        refine lv_iconst (v := iI 0) hx hb dA_seekFrom_10 rfl ?_
        refine lv_istore (lv' := [(4, .int (iI 0)), (3, .int (iI v1)), (0, .ref (ad 2)), (1, .int (iI p0)), (2, .int (iI p1))]) hx hb dA_seekFrom_11 hl (by decide) rfl (fun ls hl => ?_)
        obtain ⟨Pe2, k2, h, hk2⟩ := h
        have xW2 : ∀ (v4 : Int) (s4 : kM) (H : Heap) (locs : List Loc) (ls : Array Slot), kW (dC, dI) vwC A s.heap (wC ad kc nn s4) H locs → lv_has ls 6 [(3, .int (iI v1)), (0, .ref (ad 2)), (1, .int (iI p0)), (2, .int (iI p1))] → Pe2 v4 s4 → W p l e (headSpec ws_A_seekFrom rm_A_seekFrom).room s m args below meth c H locs 0 0 (MQ below (kQv (dC, dI) vwC (wC ad kc nn) P A) args s 0 0 A) (F0 m 63 ls []) := by
          intro v4 s4 H locs ls hW hl h
          have h := hk2 v4 s4 h
          obtain ⟨v5, ev5⟩ : ∃ z : Int, z = v1 + 1 := ⟨_, rfl⟩
          refine lv_iinc (v := iI v5) (lv' := [(3, .int (iI v5)), (0, .ref (ad 2)), (1, .int (iI p0)), (2, .int (iI p1))]) hx hb dA_seekFrom_63 hl (k := 0) rfl (by rw [ev5, ← iI_add]; rfl) (by decide) rfl (fun ls hl => ?_)
          have h := h v5 ev5
          refine lv_goto (tgt := 2) hx hb dA_seekFrom_66 (by decide) ?_
          exact ih2 v5 s4 _ _ ls hW (lv_sub hl [0, 1, 2, 3] rfl) h
        have lW1 : ∀ (ki1 : Nat) (v3 : Int) (s3 : kM) (H : Heap) (locs : List Loc) (ls : Array Slot), kW (dC, dI) vwC A s.heap (wC ad kc nn s3) H locs → lv_has ls 6 [(4, .int (iI v3)), (3, .int (iI v1)), (0, .ref (ad 2)), (1, .int (iI p0)), (2, .int (iI p1))] → lp_A_seekFrom_13 nn p0 p1 v1 Pe2 ki1 v3 s3 → W p l e (headSpec ws_A_seekFrom rm_A_seekFrom).room s m args below meth c H locs 0 0 (MQ below (kQv (dC, dI) vwC (wC ad kc nn) P A) args s 0 0 A) (F0 m 13 ls []) := by
          intro ki1
          induction ki1 with
          | zero => intro v3 s3 H locs ls hW hl h; exact h.elim
          | succ ki1 ih1 =>
            intro v3 s3 H locs ls hW hl h
            have h : lpB_A_seekFrom_13 nn p0 p1 v1 Pe2 (lp_A_seekFrom_13 nn p0 p1 v1 Pe2 ki1) v3 s3 := h
            unfold lpB_A_seekFrom_13 at h
            refine lv_iload hx hb dA_seekFrom_13 (lv_at hl 0 rfl) ?_
            refine lv_aload_n hx hb dA_seekFrom_15 rfl (lv_at hl 2 rfl) ?_
            refine k_get (ci := 2) (C := R_A) (T := T_A) (N := 6) hx hb hts (fun w q => gG_in (inG_A w q)) hown hK hW.1 2 rfl rfl 1 (by decide) (hts _ (gG_in mw_86)) rfl dA_seekFrom_16 ?_
            obtain ⟨q3, h⟩ := h
            obtain ⟨q4, h⟩ := h
            obtain ⟨ht, hf⟩ := h
            refine ki_icmp_gt (tgt := 63) hx hb dA_seekFrom_19 (by decide) q3 q4 (fun c2 => ?_) (fun c2 => ?_)
            · have h := ht c2
              exact xW2 v3 s3 _ _ ls hW (lv_sub hl [1, 2, 3, 4] rfl) h
            · have h := hf c2
              refine lv_aload_n hx hb dA_seekFrom_22 rfl (lv_at hl 2 rfl) ?_
              refine lv_aload_n hx hb dA_seekFrom_23 rfl (lv_at hl 2 rfl) ?_
              refine k_get (ci := 2) (C := R_A) (T := T_A) (N := 6) hx hb hts (fun w q => gG_in (inG_A w q)) hown hK hW.1 2 rfl rfl 4 (by decide) (hts _ (gG_in mw_89)) rfl dA_seekFrom_24 ?_
              refine lv_iload_n hx hb dA_seekFrom_27 rfl (lv_at hl 3 rfl) ?_
              refine lv_iload_n hx hb dA_seekFrom_28 rfl (lv_at hl 4 rfl) ?_
              refine lv_iload_n hx hb dA_seekFrom_29 rfl (lv_at hl 1 rfl) ?_
              refine lv_iload hx hb dA_seekFrom_30 (lv_at hl 0 rfl) ?_
              obtain ⟨P1, g1, h⟩ := h
              refine kc_vp (As := [.int (iI (s3 2 4)), .int (iI p0), .int (iI p1), .int (iI v1), .int (iI v3)]) (rest := []) (ci := 2) (q0 := 2) S (c_A_roomAbove l dC dI ad kc nn s3 (s3 2 4) p0 p1 v1 v3 g1) (cwV 5 hts (gV mw_291 mw_293 ps_9 mw_4 k_A_roomAbove) rfl rfl rfl (by decide +kernel) ⟨Nat.le_of_ble_eq_true rfl, Nat.le_of_ble_eq_true rfl⟩) hK hN hW.1 rfl rfl rfl hl.1 rfl (Nat.le_of_ble_eq_true rfl) dA_seekFrom_32 ⟨Nat.zero_le _, Nat.zero_le _⟩ (fun r1 hp => ?_)
              have h := h r1 hp
              refine lv_istore (lv' := [(5, .int (iI r1)), (4, .int (iI v3)), (3, .int (iI v1)), (0, .ref (ad 2)), (1, .int (iI p0)), (2, .int (iI p1))]) hx hb dA_seekFrom_35 hl (by decide) rfl (fun ls hl => ?_)
              refine lv_iload hx hb dA_seekFrom_37 (lv_at hl 0 rfl) ?_
              refine lv_aload_n hx hb dA_seekFrom_39 rfl (lv_at hl 3 rfl) ?_
              refine k_get (ci := 2) (C := R_A) (T := T_A) (N := 6) hx hb hts (fun w q => gG_in (inG_A w q)) hown hK hW.1 2 rfl rfl 4 (by decide) (hts _ (gG_in mw_89)) rfl dA_seekFrom_40 ?_
              obtain ⟨q5, h⟩ := h
              obtain ⟨q6, h⟩ := h
              obtain ⟨ht, hf⟩ := h
              refine ki_icmp_le (tgt := 57) hx hb dA_seekFrom_43 (by decide) q5 q6 (fun c3 => ?_) (fun c3 => ?_)
              · have h := ht c3
                obtain ⟨v6, ev6⟩ : ∃ z : Int, z = v3 + 1 := ⟨_, rfl⟩
                refine lv_iinc (v := iI v6) (lv' := [(4, .int (iI v6)), (5, .int (iI r1)), (3, .int (iI v1)), (0, .ref (ad 2)), (1, .int (iI p0)), (2, .int (iI p1))]) hx hb dA_seekFrom_57 hl (k := 1) rfl (by rw [ev6, ← iI_add]; rfl) (by decide) rfl (fun ls hl => ?_)
                have h := h v6 ev6
                refine lv_goto (tgt := 13) hx hb dA_seekFrom_60 (by decide) ?_
                exact ih1 v6 s3 _ _ ls hW (lv_sub hl [0, 2, 3, 4, 5] rfl) h
              · have h := hf c3
                refine lv_aload_n hx hb dA_seekFrom_46 rfl (lv_at hl 3 rfl) ?_
                refine lv_iload hx hb dA_seekFrom_47 (lv_at hl 0 rfl) ?_
                refine lv_iload_n hx hb dA_seekFrom_49 rfl (lv_at hl 4 rfl) ?_
                refine lv_iload_n hx hb dA_seekFrom_50 rfl (lv_at hl 5 rfl) ?_
                refine lv_iload_n hx hb dA_seekFrom_51 rfl (lv_at hl 2 rfl) ?_
                refine lv_iload hx hb dA_seekFrom_52 (lv_at hl 1 rfl) ?_
                obtain ⟨P2, g2, h⟩ := h
                refine kc_vv (As := [.int (iI r1), .int (iI p0), .int (iI p1), .int (iI v1), .int (iI v3)]) (rest := []) (ci := 2) (q0 := 2) S (c_A_keep l dC dI ad kc nn s3 r1 p0 p1 v1 v3 g2) (cwV 5 hts (gV mw_279 mw_281 ps_7 mw_4 k_A_keep) rfl rfl rfl (by decide +kernel) ⟨Nat.le_of_ble_eq_true rfl, Nat.le_of_ble_eq_true rfl⟩) hK hN hA hW (fun _ => rfl) rfl rfl rfl hl.1 rfl (Nat.le_of_ble_eq_true rfl) dA_seekFrom_54 ⟨Nat.zero_le _, Nat.zero_le _⟩ (fun s5 H locs hp hW => ?_)
                have h := h s5 hp
                obtain ⟨v7, ev7⟩ : ∃ z : Int, z = v3 + 1 := ⟨_, rfl⟩
                refine lv_iinc (v := iI v7) (lv' := [(4, .int (iI v7)), (5, .int (iI r1)), (3, .int (iI v1)), (0, .ref (ad 2)), (1, .int (iI p0)), (2, .int (iI p1))]) hx hb dA_seekFrom_57 hl (k := 1) rfl (by rw [ev7, ← iI_add]; rfl) (by decide) rfl (fun ls hl => ?_)
                have h := h v7 ev7
                refine lv_goto (tgt := 13) hx hb dA_seekFrom_60 (by decide) ?_
                exact ih1 v7 s5 _ _ ls hW (lv_sub hl [0, 2, 3, 4, 5] rfl) h
        exact lW1 k2 0 s1 _ _ ls hW (lv_sub hl [0, 1, 2, 3, 4] rfl) h
  exact lW2 k1 0 σ _ _ ls hW (lv_sub hl [0, 1, 2, 3] rfl) h
abbrev rm_A_seek : Room := { frames := 3, cells := 0, slots := 0, locals := 77 }
set_option maxHeartbeats 4000000 in
set_option maxRecDepth 100000 in
theorem c_A_seek (l : Launch) (dC : Nat → ClassId) (dI : Nat → Nat → Nat) (ad : Nat → Nat) (kc : Nat → ClassId) (nn : Nat → Nat) (σ : kM) {P : kM → Prop} (h : wp_A_seek nn σ P) : kMv l y_A_seek ws_A_seek rm_A_seek (dC, dI) vwC (tyC kc) (wC ad kc nn) nsG σ [.ref (ad 2)] P := by
  intro sz
  refine k_enter (cc := b_A_seek) (maxL := 3) (ret := none) (by decide) rfl (Nat.le_of_ble_eq_true rfl) ?_
  intro p e s m below meth c ls S hr hlocks hsz hA hW hK hN hl
  generalize va_A ((wC ad kc nn) σ) sz = A at hA hW ⊢
  generalize ([.ref (ad 2)] : List Value).toArray = args at S ⊢
  obtain ⟨hx, hb, hml, hown, hts⟩ := id S
  have hl : lv_has ls 3 [(0, .ref (ad 2))] := hl
  unfold wp_A_seek at h
  refine lv_aload_n hx hb dA_seek_0 rfl (lv_at hl 0 rfl) ?_
  refine lv_iconst (v := iI 0) hx hb dA_seek_1 rfl ?_
  refine lv_iconst (v := iI 0) hx hb dA_seek_2 rfl ?_
  refine lv_iconst (v := iI 0) hx hb dA_seek_3 rfl ?_
  refine lv_iconst (v := iI 0) hx hb dA_seek_4 rfl ?_
  refine lv_iconst (v := iI 0) hx hb dA_seek_5 rfl ?_
  obtain ⟨P1, g1, h⟩ := h
  refine kc_vv (As := [.int (iI 0), .int (iI 0), .int (iI 0), .int (iI 0), .int (iI 0)]) (rest := []) (ci := 2) (q0 := 2) S (c_A_keep l dC dI ad kc nn σ 0 0 0 0 0 g1) (cwV 5 hts (gV mw_279 mw_281 ps_7 mw_4 k_A_keep) rfl rfl rfl (by decide +kernel) ⟨Nat.le_of_ble_eq_true rfl, Nat.le_of_ble_eq_true rfl⟩) hK hN hA hW (fun _ => rfl) rfl rfl rfl hl.1 rfl (Nat.le_of_ble_eq_true rfl) dA_seek_6 ⟨Nat.zero_le _, Nat.zero_le _⟩ (fun s1 H locs hp hW => ?_)
  have h := h s1 hp
  refine lv_iconst (v := iI 0) hx hb dA_seek_9 rfl ?_
  refine lv_istore_n (lv' := [(1, .int (iI 0)), (0, .ref (ad 2))]) hx hb dA_seek_10 rfl hl (by decide) rfl (fun ls hl => ?_)
  obtain ⟨Pe1, k1, h, hk1⟩ := h
  have xW1 : ∀ (v2 : Int) (s3 : kM) (H : Heap) (locs : List Loc) (ls : Array Slot), kW (dC, dI) vwC A s.heap (wC ad kc nn s3) H locs → lv_has ls 3 [] → Pe1 v2 s3 → W p l e (headSpec ws_A_seek rm_A_seek).room s m args below meth c H locs 0 0 (MQ below (kQv (dC, dI) vwC (wC ad kc nn) P A) args s 0 0 A) (F0 m 74 ls []) := by
    intro v2 s3 H locs ls hW hl h
    have h := hk1 v2 s3 h
    exact k_vret hx hb hr hlocks hW dA_seek_74 h
  have lW2 : ∀ (ki2 : Nat) (v1 : Int) (s2 : kM) (H : Heap) (locs : List Loc) (ls : Array Slot), kW (dC, dI) vwC A s.heap (wC ad kc nn s2) H locs → lv_has ls 3 [(1, .int (iI v1)), (0, .ref (ad 2))] → lp_A_seek_11 nn Pe1 ki2 v1 s2 → W p l e (headSpec ws_A_seek rm_A_seek).room s m args below meth c H locs 0 0 (MQ below (kQv (dC, dI) vwC (wC ad kc nn) P A) args s 0 0 A) (F0 m 11 ls []) := by
    intro ki2
    induction ki2 with
    | zero => intro v1 s2 H locs ls hW hl h; exact h.elim
    | succ ki2 ih2 =>
      intro v1 s2 H locs ls hW hl h
      have h : lpB_A_seek_11 nn Pe1 (lp_A_seek_11 nn Pe1 ki2) v1 s2 := h
      unfold lpB_A_seek_11 at h
      refine lv_iload_n hx hb dA_seek_11 rfl (lv_at hl 0 rfl) ?_
      refine lv_aload_n hx hb dA_seek_12 rfl (lv_at hl 1 rfl) ?_
      refine k_get (ci := 2) (C := R_A) (T := T_A) (N := 6) hx hb hts (fun w q => gG_in (inG_A w q)) hown hK hW.1 2 rfl rfl 1 (by decide) (hts _ (gG_in mw_86)) rfl dA_seek_13 ?_
      obtain ⟨q1, h⟩ := h
      obtain ⟨q2, h⟩ := h
      obtain ⟨ht, hf⟩ := h
      refine ki_icmp_gt (tgt := 74) hx hb dA_seek_16 (by decide) q1 q2 (fun c1 => ?_) (fun c1 => ?_)
      · have h := ht c1
        exact xW1 v1 s2 _ _ ls hW (lv_sub hl [] rfl) h
      · have h := hf c1
        refine lv_iconst (v := iI 0) hx hb dA_seek_19 rfl ?_
        refine lv_istore_n (lv' := [(2, .int (iI 0)), (1, .int (iI v1)), (0, .ref (ad 2))]) hx hb dA_seek_20 rfl hl (by decide) rfl (fun ls hl => ?_)
        obtain ⟨Pe2, k2, h, hk2⟩ := h
        have xW2 : ∀ (v4 : Int) (s5 : kM) (H : Heap) (locs : List Loc) (ls : Array Slot), kW (dC, dI) vwC A s.heap (wC ad kc nn s5) H locs → lv_has ls 3 [(1, .int (iI v1)), (0, .ref (ad 2))] → Pe2 v4 s5 → W p l e (headSpec ws_A_seek rm_A_seek).room s m args below meth c H locs 0 0 (MQ below (kQv (dC, dI) vwC (wC ad kc nn) P A) args s 0 0 A) (F0 m 68 ls []) := by
          intro v4 s5 H locs ls hW hl h
          have h := hk2 v4 s5 h
          obtain ⟨v5, ev5⟩ : ∃ z : Int, z = v1 + 1 := ⟨_, rfl⟩
          refine lv_iinc (v := iI v5) (lv' := [(1, .int (iI v5)), (0, .ref (ad 2))]) hx hb dA_seek_68 hl (k := 0) rfl (by rw [ev5, ← iI_add]; rfl) (by decide) rfl (fun ls hl => ?_)
          have h := h v5 ev5
          refine lv_goto (tgt := 11) hx hb dA_seek_71 (by decide) ?_
          exact ih2 v5 s5 _ _ ls hW (lv_sub hl [0, 1] rfl) h
        have lW1 : ∀ (ki1 : Nat) (v3 : Int) (s4 : kM) (H : Heap) (locs : List Loc) (ls : Array Slot), kW (dC, dI) vwC A s.heap (wC ad kc nn s4) H locs → lv_has ls 3 [(2, .int (iI v3)), (1, .int (iI v1)), (0, .ref (ad 2))] → lp_A_seek_21 nn v1 Pe2 ki1 v3 s4 → W p l e (headSpec ws_A_seek rm_A_seek).room s m args below meth c H locs 0 0 (MQ below (kQv (dC, dI) vwC (wC ad kc nn) P A) args s 0 0 A) (F0 m 21 ls []) := by
          intro ki1
          induction ki1 with
          | zero => intro v3 s4 H locs ls hW hl h; exact h.elim
          | succ ki1 ih1 =>
            intro v3 s4 H locs ls hW hl h
            have h : lpB_A_seek_21 nn v1 Pe2 (lp_A_seek_21 nn v1 Pe2 ki1) v3 s4 := h
            unfold lpB_A_seek_21 at h
            refine lv_iload_n hx hb dA_seek_21 rfl (lv_at hl 0 rfl) ?_
            refine lv_aload_n hx hb dA_seek_22 rfl (lv_at hl 2 rfl) ?_
            refine k_get (ci := 2) (C := R_A) (T := T_A) (N := 6) hx hb hts (fun w q => gG_in (inG_A w q)) hown hK hW.1 2 rfl rfl 1 (by decide) (hts _ (gG_in mw_86)) rfl dA_seek_23 ?_
            obtain ⟨q3, h⟩ := h
            obtain ⟨q4, h⟩ := h
            obtain ⟨ht, hf⟩ := h
            refine ki_icmp_gt (tgt := 68) hx hb dA_seek_26 (by decide) q3 q4 (fun c2 => ?_) (fun c2 => ?_)
            · have h := ht c2
              exact xW2 v3 s4 _ _ ls hW (lv_sub hl [1, 2] rfl) h
            · have h := hf c2
              refine lv_aload_n hx hb dA_seek_29 rfl (lv_at hl 2 rfl) ?_
              refine k_get (ci := 2) (C := R_A) (T := T_A) (N := 6) hx hb hts (fun w q => gG_in (inG_A w q)) hown hK hW.1 2 rfl rfl 0 (by decide) (hts _ (gG_in mw_85)) rfl dA_seek_30 ?_
              refine lv_iconst (v := iI 0) hx hb dA_seek_33 rfl ?_
              refine lv_iload_n hx hb dA_seek_34 rfl (lv_at hl 1 rfl) ?_
              refine lv_aload_n hx hb dA_seek_35 rfl (lv_at hl 2 rfl) ?_
              refine k_get (ci := 2) (C := R_A) (T := T_A) (N := 6) hx hb hts (fun w q => gG_in (inG_A w q)) hown hK hW.1 2 rfl rfl 2 (by decide) (hts _ (gG_in mw_87)) rfl dA_seek_36 ?_
              refine ki_mul hx hb dA_seek_39 ?_
              refine lv_iload_n hx hb dA_seek_40 rfl (lv_at hl 0 rfl) ?_
              refine lv_aload_n hx hb dA_seek_41 rfl (lv_at hl 2 rfl) ?_
              refine k_get (ci := 2) (C := R_A) (T := T_A) (N := 6) hx hb hts (fun w q => gG_in (inG_A w q)) hown hK hW.1 2 rfl rfl 2 (by decide) (hts _ (gG_in mw_87)) rfl dA_seek_42 ?_
              refine ki_mul hx hb dA_seek_45 ?_
              obtain ⟨P2, g2, h⟩ := h
              refine kc_vp (As := [.int (iI 0), .int (iI (v1 * (s4 2 2))), .int (iI (v3 * (s4 2 2)))]) (rest := []) (ci := 1) (q0 := 1) S (c_S_nearestAt l dC dI ad kc nn s4 0 (v1 * (s4 2 2)) (v3 * (s4 2 2)) g2) (cwV 3 hts (gV mw_283 mw_284 mw_285 mw_2 k_S_nearestAt) rfl rfl rfl (by decide +kernel) ⟨Nat.le_of_ble_eq_true rfl, Nat.le_of_ble_eq_true rfl⟩) hK hN hW.1 rfl rfl rfl hl.1 rfl (Nat.le_of_ble_eq_true rfl) dA_seek_46 ⟨Nat.zero_le _, Nat.zero_le _⟩ (fun r1 hp => ?_)
              have h := h r1 hp
              refine lv_aload_n hx hb dA_seek_49 rfl (lv_at hl 2 rfl) ?_
              refine k_get (ci := 2) (C := R_A) (T := T_A) (N := 6) hx hb hts (fun w q => gG_in (inG_A w q)) hown hK hW.1 2 rfl rfl 4 (by decide) (hts _ (gG_in mw_89)) rfl dA_seek_50 ?_
              obtain ⟨q5, h⟩ := h
              obtain ⟨q6, h⟩ := h
              obtain ⟨ht, hf⟩ := h
              refine ki_icmp_le (tgt := 62) hx hb dA_seek_53 (by decide) q5 q6 (fun c3 => ?_) (fun c3 => ?_)
              · have h := ht c3
                obtain ⟨v6, ev6⟩ : ∃ z : Int, z = v3 + 1 := ⟨_, rfl⟩
                refine lv_iinc (v := iI v6) (lv' := [(2, .int (iI v6)), (1, .int (iI v1)), (0, .ref (ad 2))]) hx hb dA_seek_62 hl (k := 0) rfl (by rw [ev6, ← iI_add]; rfl) (by decide) rfl (fun ls hl => ?_)
                have h := h v6 ev6
                refine lv_goto (tgt := 21) hx hb dA_seek_65 (by decide) ?_
                exact ih1 v6 s4 _ _ ls hW (lv_sub hl [0, 1, 2] rfl) h
              · have h := hf c3
                refine lv_aload_n hx hb dA_seek_56 rfl (lv_at hl 2 rfl) ?_
                refine lv_iload_n hx hb dA_seek_57 rfl (lv_at hl 1 rfl) ?_
                refine lv_iload_n hx hb dA_seek_58 rfl (lv_at hl 0 rfl) ?_
                obtain ⟨P3, g3, h⟩ := h
                refine kc_vv (As := [.int (iI v1), .int (iI v3)]) (rest := []) (ci := 2) (q0 := 2) S (c_A_seekFrom l dC dI ad kc nn s4 v1 v3 g3) (cwV 2 hts (gV mw_287 mw_289 ps_8 mw_4 k_A_seekFrom) rfl rfl rfl (by decide +kernel) ⟨Nat.le_of_ble_eq_true rfl, Nat.le_of_ble_eq_true rfl⟩) hK hN hA hW (fun _ => rfl) rfl rfl rfl hl.1 rfl (Nat.le_of_ble_eq_true rfl) dA_seek_59 ⟨Nat.zero_le _, Nat.zero_le _⟩ (fun s6 H locs hp hW => ?_)
                have h := h s6 hp
                obtain ⟨v7, ev7⟩ : ∃ z : Int, z = v3 + 1 := ⟨_, rfl⟩
                refine lv_iinc (v := iI v7) (lv' := [(2, .int (iI v7)), (1, .int (iI v1)), (0, .ref (ad 2))]) hx hb dA_seek_62 hl (k := 0) rfl (by rw [ev7, ← iI_add]; rfl) (by decide) rfl (fun ls hl => ?_)
                have h := h v7 ev7
                refine lv_goto (tgt := 21) hx hb dA_seek_65 (by decide) ?_
                exact ih1 v7 s6 _ _ ls hW (lv_sub hl [0, 1, 2] rfl) h
        exact lW1 k2 0 s2 _ _ ls hW (lv_sub hl [0, 1, 2] rfl) h
  exact lW2 k1 0 s1 _ _ ls hW (lv_sub hl [0, 1] rfl) h
abbrev rm_A_seekIfStale : Room := { frames := 4, cells := 0, slots := 0, locals := 99 }
set_option maxHeartbeats 4000000 in
set_option maxRecDepth 100000 in
theorem c_A_seekIfStale (l : Launch) (dC : Nat → ClassId) (dI : Nat → Nat → Nat) (ad : Nat → Nat) (kc : Nat → ClassId) (nn : Nat → Nat) (σ : kM) {P : kM → Prop} (h : wp_A_seekIfStale nn σ P) : kMv l y_A_seekIfStale ws_A_seekIfStale rm_A_seekIfStale (dC, dI) vwC (tyC kc) (wC ad kc nn) nsG σ [.ref (ad 2)] P := by
  intro sz
  refine k_enter (cc := b_A_seekIfStale) (maxL := 1) (ret := none) (by decide) rfl (Nat.le_of_ble_eq_true rfl) ?_
  intro p e s m below meth c ls S hr hlocks hsz hA hW hK hN hl
  generalize va_A ((wC ad kc nn) σ) sz = A at hA hW ⊢
  generalize ([.ref (ad 2)] : List Value).toArray = args at S ⊢
  obtain ⟨hx, hb, hml, hown, hts⟩ := id S
  have hl : lv_has ls 1 [(0, .ref (ad 2))] := hl
  unfold wp_A_seekIfStale at h
  refine lv_aload_n hx hb dA_seekIfStale_0 rfl (lv_at hl 0 rfl) ?_
  refine k_get (ci := 2) (C := R_A) (T := T_A) (N := 6) hx hb hts (fun w q => gG_in (inG_A w q)) hown hK hW.1 2 rfl rfl 5 (by decide) (hts _ (gG_in mw_90)) rfl dA_seekIfStale_1 ?_
  obtain ⟨q1, h⟩ := h
  obtain ⟨ht, hf⟩ := h
  refine ki_if_eq (tgt := 23) hx hb dA_seekIfStale_4 (by decide) q1 (fun c1 => ?_) (fun c1 => ?_)
  · have h := ht c1
    exact k_vret hx hb hr hlocks hW dA_seekIfStale_23 h
  · have h := hf c1
    refine lv_aload_n hx hb dA_seekIfStale_7 rfl (lv_at hl 0 rfl) ?_
    refine k_get (ci := 2) (C := R_A) (T := T_A) (N := 6) hx hb hts (fun w q => gG_in (inG_A w q)) hown hK hW.1 2 rfl rfl 0 (by decide) (hts _ (gG_in mw_85)) rfl dA_seekIfStale_8 ?_
    obtain ⟨P1, g1, h⟩ := h
    refine kc_vv (As := []) (rest := []) (ci := 1) (q0 := 1) S (c_S_measureWhatChanged l dC dI ad kc nn σ g1) (cwV 0 hts (gV mw_249 mw_250 mw_251 mw_2 k_S_measureWhatChanged) rfl rfl rfl (by decide +kernel) ⟨Nat.le_of_ble_eq_true rfl, Nat.le_of_ble_eq_true rfl⟩) hK hN hA hW (fun _ => rfl) rfl rfl rfl hl.1 rfl (Nat.le_of_ble_eq_true rfl) dA_seekIfStale_11 ⟨Nat.zero_le _, Nat.zero_le _⟩ (fun s1 H locs hp hW => ?_)
    have h := h s1 hp
    refine lv_aload_n hx hb dA_seekIfStale_14 rfl (lv_at hl 0 rfl) ?_
    obtain ⟨P2, g2, h⟩ := h
    refine kc_vv (As := []) (rest := []) (ci := 2) (q0 := 2) S (c_A_seek l dC dI ad kc nn s1 g2) (cwV 0 hts (gV mw_275 mw_277 ps_6 mw_4 k_A_seek) rfl rfl rfl (by decide +kernel) ⟨Nat.le_of_ble_eq_true rfl, Nat.le_of_ble_eq_true rfl⟩) hK hN hA hW (fun _ => rfl) rfl rfl rfl hl.1 rfl (Nat.le_of_ble_eq_true rfl) dA_seekIfStale_15 ⟨Nat.zero_le _, Nat.zero_le _⟩ (fun s2 H locs hp hW => ?_)
    have h := h s2 hp
    refine lv_aload_n hx hb dA_seekIfStale_18 rfl (lv_at hl 0 rfl) ?_
    refine lv_iconst (v := iI 0) hx hb dA_seekIfStale_19 rfl ?_
    obtain ⟨s3, es3⟩ : ∃ z : kM, z = va_up s2 2 (va_up (s2 2) 5 0) := ⟨_, rfl⟩
    refine k_put (ty := .boolean) (ws' := wC ad kc nn s3) (ci := 2) (C := R_A) (T := T_A) (N := 6) hx hb hts (fun w q => gG_in (inG_A w q)) ty_A tk_A nm_A hown hK hW 2 rfl rfl 5 (by decide) (hts _ (gG_in mw_90)) rfl (by decide +kernel) (narZ (by decide)) (fitZ (by decide)) (Nat.le_of_ble_eq_true rfl) (by rw [es3]; exact wC_p2_5 ..) dA_seekIfStale_20 (fun H locs hW => ?_)
    have h := h s3 es3
    exact k_vret hx hb hr hlocks hW dA_seekIfStale_23 h
abbrev rm_A_greatestRoom : Room := { frames := 5, cells := 0, slots := 0, locals := 119 }
set_option maxHeartbeats 4000000 in
set_option maxRecDepth 100000 in
theorem c_A_greatestRoom (l : Launch) (dC : Nat → ClassId) (dI : Nat → Nat → Nat) (ad : Nat → Nat) (kc : Nat → ClassId) (nn : Nat → Nat) (σ : kM) {P : Int → kM → Prop} (h : wp_A_greatestRoom nn σ P) : kMi l y_A_greatestRoom ws_A_greatestRoom rm_A_greatestRoom (dC, dI) vwC (tyC kc) (wC ad kc nn) nsG σ [.ref (ad 2)] P := by
  intro sz
  refine k_enter (cc := b_A_greatestRoom) (maxL := 1) (ret := (some .int)) (by decide) rfl (Nat.le_of_ble_eq_true rfl) ?_
  intro p e s m below meth c ls S hr hlocks hsz hA hW hK hN hl
  generalize va_A ((wC ad kc nn) σ) sz = A at hA hW ⊢
  generalize ([.ref (ad 2)] : List Value).toArray = args at S ⊢
  obtain ⟨hx, hb, hml, hown, hts⟩ := id S
  have hl : lv_has ls 1 [(0, .ref (ad 2))] := hl
  unfold wp_A_greatestRoom at h
  refine lv_aload_n hx hb dA_greatestRoom_0 rfl (lv_at hl 0 rfl) ?_
  obtain ⟨P1, g1, h⟩ := h
  refine kc_vv (As := []) (rest := []) (ci := 2) (q0 := 2) S (c_A_seekIfStale l dC dI ad kc nn σ g1) (cwV 0 hts (gV mw_245 mw_247 ps_0 mw_4 k_A_seekIfStale) rfl rfl rfl (by decide +kernel) ⟨Nat.le_of_ble_eq_true rfl, Nat.le_of_ble_eq_true rfl⟩) hK hN hA hW (fun _ => rfl) rfl rfl rfl hl.1 rfl (Nat.le_of_ble_eq_true rfl) dA_greatestRoom_1 ⟨Nat.zero_le _, Nat.zero_le _⟩ (fun s1 H locs hp hW => ?_)
  have h := h s1 hp
  refine lv_aload_n hx hb dA_greatestRoom_4 rfl (lv_at hl 0 rfl) ?_
  refine k_get (ci := 2) (C := R_A) (T := T_A) (N := 6) hx hb hts (fun w q => gG_in (inG_A w q)) hown hK hW.1 2 rfl rfl 4 (by decide) (hts _ (gG_in mw_89)) rfl dA_greatestRoom_5 ?_
  exact k_iret hx hb hr hlocks hW dA_greatestRoom_8 h
abbrev rm_P_room : Room := { frames := 6, cells := 0, slots := 0, locals := 139 }
set_option maxHeartbeats 4000000 in
set_option maxRecDepth 100000 in
theorem c_P_room (l : Launch) (dC : Nat → ClassId) (dI : Nat → Nat → Nat) (ad : Nat → Nat) (kc : Nat → ClassId) (nn : Nat → Nat) (σ : kM) {P : Int → kM → Prop} (h : wp_P_room nn σ P) : kMi l y_P_room ws_P_room rm_P_room (dC, dI) vwC (tyC kc) (wC ad kc nn) nsG σ [.ref (ad 0)] P := by
  intro sz
  refine k_enter (cc := b_P_room) (maxL := 1) (ret := (some .int)) (by decide) rfl (Nat.le_of_ble_eq_true rfl) ?_
  intro p e s m below meth c ls S hr hlocks hsz hA hW hK hN hl
  generalize va_A ((wC ad kc nn) σ) sz = A at hA hW ⊢
  generalize ([.ref (ad 0)] : List Value).toArray = args at S ⊢
  obtain ⟨hx, hb, hml, hown, hts⟩ := id S
  have hl : lv_has ls 1 [(0, .ref (ad 0))] := hl
  unfold wp_P_room at h
  refine lv_aload_n hx hb dP_room_0 rfl (lv_at hl 0 rfl) ?_
  refine k_get (ci := 0) (C := R_P) (T := T_P) (N := 7) hx hb hts (fun w q => gG_in (inG_P w q)) hown hK hW.1 0 rfl rfl 1 (by decide) (hts _ (gG_in mw_216)) rfl dP_room_1 ?_
  obtain ⟨P1, g1, h⟩ := h
  refine kc_vi (As := []) (rest := []) (ci := 2) (q0 := 2) S (c_A_greatestRoom l dC dI ad kc nn σ g1) (cwV 0 hts (gV mw_241 mw_242 mw_243 mw_4 k_A_greatestRoom) rfl rfl rfl (by decide +kernel) ⟨Nat.le_of_ble_eq_true rfl, Nat.le_of_ble_eq_true rfl⟩) hK hN hA hW (fun _ => rfl) rfl rfl rfl hl.1 rfl (Nat.le_of_ble_eq_true rfl) dP_room_4 ⟨Nat.zero_le _, Nat.zero_le _⟩ (fun r1 s1 H locs hp hW => ?_)
  have h := h r1 s1 hp
  exact k_iret hx hb hr hlocks hW dP_room_7 h
abbrev rm_A_number : Room := { frames := 5, cells := 0, slots := 0, locals := 119 }
set_option maxHeartbeats 4000000 in
set_option maxRecDepth 100000 in
theorem c_A_number (l : Launch) (dC : Nat → ClassId) (dI : Nat → Nat → Nat) (ad : Nat → Nat) (kc : Nat → ClassId) (nn : Nat → Nat) (σ : kM) (p0 : Int) {P : Int → kM → Prop} (h : wp_A_number nn σ p0 P) : kMi l y_A_number ws_A_number rm_A_number (dC, dI) vwC (tyC kc) (wC ad kc nn) nsG σ [.ref (ad 2), .int (iI p0)] P := by
  intro sz
  refine k_enter (cc := b_A_number) (maxL := 2) (ret := (some .int)) (by decide) rfl (Nat.le_of_ble_eq_true rfl) ?_
  intro p e s m below meth c ls S hr hlocks hsz hA hW hK hN hl
  generalize va_A ((wC ad kc nn) σ) sz = A at hA hW ⊢
  generalize ([.ref (ad 2), .int (iI p0)] : List Value).toArray = args at S ⊢
  obtain ⟨hx, hb, hml, hown, hts⟩ := id S
  have hl : lv_has ls 2 [(0, .ref (ad 2)), (1, .int (iI p0))] := hl
  unfold wp_A_number at h
  refine lv_aload_n hx hb dA_number_0 rfl (lv_at hl 0 rfl) ?_
  obtain ⟨P1, g1, h⟩ := h
  refine kc_vv (As := []) (rest := []) (ci := 2) (q0 := 2) S (c_A_seekIfStale l dC dI ad kc nn σ g1) (cwV 0 hts (gV mw_245 mw_247 ps_0 mw_4 k_A_seekIfStale) rfl rfl rfl (by decide +kernel) ⟨Nat.le_of_ble_eq_true rfl, Nat.le_of_ble_eq_true rfl⟩) hK hN hA hW (fun _ => rfl) rfl rfl rfl hl.1 rfl (Nat.le_of_ble_eq_true rfl) dA_number_1 ⟨Nat.zero_le _, Nat.zero_le _⟩ (fun s1 H locs hp hW => ?_)
  have h := h s1 hp
  refine lv_aload_n hx hb dA_number_4 rfl (lv_at hl 0 rfl) ?_
  refine k_get (ci := 2) (C := R_A) (T := T_A) (N := 6) hx hb hts (fun w q => gG_in (inG_A w q)) hown hK hW.1 2 rfl rfl 3 (by decide) (hts _ (gG_in mw_88)) rfl dA_number_5 ?_
  refine lv_iload_n hx hb dA_number_8 rfl (lv_at hl 1 rfl) ?_
  obtain ⟨q1, h⟩ := h
  refine k_iald hx hb hK hW.1 12 4 (s1 12) rfl rfl q1 dA_number_9 ?_
  exact k_iret hx hb hr hlocks hW dA_number_10 h
abbrev rm_P_axis : Room := { frames := 6, cells := 0, slots := 0, locals := 140 }
set_option maxHeartbeats 4000000 in
set_option maxRecDepth 100000 in
theorem c_P_axis (l : Launch) (dC : Nat → ClassId) (dI : Nat → Nat → Nat) (ad : Nat → Nat) (kc : Nat → ClassId) (nn : Nat → Nat) (σ : kM) (p0 : Int) {P : Int → kM → Prop} (h : wp_P_axis nn σ p0 P (fun _ _ => False)) : kMi l y_P_axis ws_P_axis rm_P_axis (dC, dI) vwC (tyC kc) (wC ad kc nn) nsG σ [.ref (ad 0), .int (iI p0)] P := by
  intro sz
  refine k_enter (cc := b_P_axis) (maxL := 2) (ret := (some .int)) (by decide) rfl (Nat.le_of_ble_eq_true rfl) ?_
  intro p e s m below meth c ls S hr hlocks hsz hA hW hK hN hl
  generalize va_A ((wC ad kc nn) σ) sz = A at hA hW ⊢
  generalize ([.ref (ad 0), .int (iI p0)] : List Value).toArray = args at S ⊢
  obtain ⟨hx, hb, hml, hown, hts⟩ := id S
  have hl : lv_has ls 2 [(0, .ref (ad 0)), (1, .int (iI p0))] := hl
  unfold wp_P_axis at h
  refine lv_iload_n hx hb dP_axis_0 rfl (lv_at hl 1 rfl) ?_
  refine lv_iconst (v := iI 0) hx hb dP_axis_1 rfl ?_
  refine lv_iconst (v := iI 3) hx hb dP_axis_2 rfl ?_
  obtain ⟨P1, g1, h⟩ := h
  refine kc_sp (As := [.int (iI p0), .int (iI 0), .int (iI 3)]) (rest := []) S (c_P_isWithin l dC dI (tyC kc) (wC ad kc nn) nn σ p0 0 3 g1) (cwS 3 hts (gS mw_425 mw_332 mw_1 k_P_isWithin) rfl rfl rfl (by decide +kernel) ⟨Nat.le_of_ble_eq_true rfl, Nat.le_of_ble_eq_true rfl⟩) hK hN hW.1 rfl hl.1 rfl (Nat.le_of_ble_eq_true rfl) dP_axis_3 ⟨Nat.zero_le _, Nat.zero_le _⟩ (fun r1 hp => ?_)
  have h := h r1 hp
  obtain ⟨q1, h⟩ := h
  obtain ⟨ht, hf⟩ := h
  refine ki_if_ne (tgt := 19) hx hb dP_axis_6 (by decide) q1 (fun c1 => ?_) (fun c1 => ?_)
  · have h := ht c1
    refine lv_aload_n hx hb dP_axis_19 rfl (lv_at hl 0 rfl) ?_
    refine k_get (ci := 0) (C := R_P) (T := T_P) (N := 7) hx hb hts (fun w q => gG_in (inG_P w q)) hown hK hW.1 0 rfl rfl 1 (by decide) (hts _ (gG_in mw_216)) rfl dP_axis_20 ?_
    refine lv_iload_n hx hb dP_axis_23 rfl (lv_at hl 1 rfl) ?_
    obtain ⟨P2, g2, h⟩ := h
    refine kc_vi (As := [.int (iI p0)]) (rest := []) (ci := 2) (q0 := 2) S (c_A_number l dC dI ad kc nn σ p0 g2) (cwV 1 hts (gV mw_427 mw_428 mw_429 mw_4 k_A_number) rfl rfl rfl (by decide +kernel) ⟨Nat.le_of_ble_eq_true rfl, Nat.le_of_ble_eq_true rfl⟩) hK hN hA hW (fun _ => rfl) rfl rfl rfl hl.1 rfl (Nat.le_of_ble_eq_true rfl) dP_axis_24 ⟨Nat.zero_le _, Nat.zero_le _⟩ (fun r2 s1 H locs hp hW => ?_)
    have h := h r2 s1 hp
    exact k_iret hx hb hr hlocks hW dP_axis_27 h
  · have h := hf c1
    exact False.elim h
abbrev rm_A_rootOf : Room := { frames := 0, cells := 0, slots := 0, locals := 0 }
set_option maxHeartbeats 4000000 in
set_option maxRecDepth 100000 in
theorem c_A_rootOf (l : Launch) (dC : Nat → ClassId) (dI : Nat → Nat → Nat) (tys : List (ClassId × FieldType)) (w : kM → va_W) (nn : Nat → Nat) (σ : kM) (p0 : Int) {P : Int → Prop} (h : wp_A_rootOf nn σ p0 P) : kMp l y_A_rootOf ws_A_rootOf rm_A_rootOf (dC, dI) vwC tys w nsG σ [.int (iI p0)] P := by
  refine k_enterP (cc := b_A_rootOf) (maxL := 4) (ret := (some .int)) (by decide) rfl (Nat.le_of_ble_eq_true rfl) ?_
  intro p e s m below meth c ls S hr hlocks hP hK hN hl
  generalize ([.int (iI p0)] : List Value).toArray = args at S ⊢
  obtain ⟨hx, hb, hml, hown, hts⟩ := id S
  have hl : lv_has ls 4 [(0, .int (iI p0))] := hl
  unfold wp_A_rootOf at h
  refine lv_iconst (v := iI 0) hx hb dA_rootOf_0 rfl ?_
  refine lv_istore_n (lv' := [(1, .int (iI 0)), (0, .int (iI p0))]) hx hb dA_rootOf_1 rfl hl (by decide) rfl (fun ls hl => ?_)
  refine lv_sipush (v := iI 1024) hx hb dA_rootOf_2 (by decide) ?_
  refine lv_istore_n (lv' := [(2, .int (iI 1024)), (1, .int (iI 0)), (0, .int (iI p0))]) hx hb dA_rootOf_5 rfl hl (by decide) rfl (fun ls hl => ?_)
  obtain ⟨Pe1, k1, h, hk1⟩ := h
  have xW1 : ∀ (v3 : Int) (v4 : Int) (ls : Array Slot), lv_has ls 4 [(1, .int (iI v4))] → Pe1 v3 v4 → W p l e (headSpec ws_A_rootOf rm_A_rootOf).room s m args below meth c s.heap [] 0 0 (MQ below (kQp P) args s 0 0 (fun _ => False)) (F0 m 30 ls []) := by
    intro v3 v4 ls hl h
    have h := hk1 v3 v4 h
    refine lv_iload_n hx hb dA_rootOf_30 rfl (lv_at hl 0 rfl) ?_
    exact k_iretP hx hb hr hlocks dA_rootOf_31 h
  have lW1 : ∀ (ki1 : Nat) (v1 : Int) (v2 : Int) (ls : Array Slot), lv_has ls 4 [(2, .int (iI v1)), (1, .int (iI v2)), (0, .int (iI p0))] → lp_A_rootOf_6 nn p0 Pe1 ki1 v1 v2 → W p l e (headSpec ws_A_rootOf rm_A_rootOf).room s m args below meth c s.heap [] 0 0 (MQ below (kQp P) args s 0 0 (fun _ => False)) (F0 m 6 ls []) := by
    intro ki1
    induction ki1 with
    | zero => intro v1 v2 ls hl h; exact h.elim
    | succ ki1 ih1 =>
      intro v1 v2 ls hl h
      have h : lpB_A_rootOf_6 nn p0 Pe1 (lp_A_rootOf_6 nn p0 Pe1 ki1) v1 v2 := h
      unfold lpB_A_rootOf_6 at h
      refine lv_iload_n hx hb dA_rootOf_6 rfl (lv_at hl 0 rfl) ?_
      obtain ⟨q1, h⟩ := h
      obtain ⟨ht, hf⟩ := h
      refine ki_if_le (tgt := 30) hx hb dA_rootOf_7 (by decide) q1 (fun c1 => ?_) (fun c1 => ?_)
      · have h := ht c1
        exact xW1 v1 v2 ls (lv_sub hl [1] rfl) h
      · have h := hf c1
        refine lv_iload_n hx hb dA_rootOf_10 rfl (lv_at hl 1 rfl) ?_
        refine lv_iload_n hx hb dA_rootOf_11 rfl (lv_at hl 0 rfl) ?_
        refine ki_add hx hb dA_rootOf_12 ?_
        refine ki_nm (fun v5 ev5 => ?_)
        have h := h v5 ev5
        refine lv_istore_n (lv' := [(3, .int (iI v5)), (2, .int (iI v1)), (1, .int (iI v2)), (0, .int (iI p0))]) hx hb dA_rootOf_13 rfl hl (by decide) rfl (fun ls hl => ?_)
        refine lv_iload_n hx hb dA_rootOf_14 rfl (lv_at hl 0 rfl) ?_
        refine lv_iload_n hx hb dA_rootOf_15 rfl (lv_at hl 0 rfl) ?_
        refine ki_mul hx hb dA_rootOf_16 ?_
        refine lv_iload_n hx hb dA_rootOf_17 rfl (lv_at hl 3 rfl) ?_
        obtain ⟨q2, h⟩ := h
        obtain ⟨q3, h⟩ := h
        obtain ⟨ht, hf⟩ := h
        refine ki_icmp_gt (tgt := 23) hx hb dA_rootOf_18 (by decide) q2 q3 (fun c2 => ?_) (fun c2 => ?_)
        · have h := ht c2
          refine lv_iload_n hx hb dA_rootOf_23 rfl (lv_at hl 1 rfl) ?_
          refine lv_iconst (v := iI 1) hx hb dA_rootOf_24 rfl ?_
          refine ki_shr hx hb dA_rootOf_25 ?_
          refine ki_nm (fun v6 ev6 => ?_)
          have h := h v6 ev6
          refine lv_istore_n (lv' := [(2, .int (iI v6)), (3, .int (iI v5)), (1, .int (iI v2)), (0, .int (iI p0))]) hx hb dA_rootOf_26 rfl hl (by decide) rfl (fun ls hl => ?_)
          refine lv_goto (tgt := 6) hx hb dA_rootOf_27 (by decide) ?_
          exact ih1 v6 v2 ls (lv_sub hl [0, 2, 3] rfl) h
        · have h := hf c2
          refine lv_iload_n hx hb dA_rootOf_21 rfl (lv_at hl 0 rfl) ?_
          refine lv_istore_n (lv' := [(1, .int (iI v5)), (3, .int (iI v5)), (2, .int (iI v1)), (0, .int (iI p0))]) hx hb dA_rootOf_22 rfl hl (by decide) rfl (fun ls hl => ?_)
          refine lv_iload_n hx hb dA_rootOf_23 rfl (lv_at hl 2 rfl) ?_
          refine lv_iconst (v := iI 1) hx hb dA_rootOf_24 rfl ?_
          refine ki_shr hx hb dA_rootOf_25 ?_
          refine ki_nm (fun v7 ev7 => ?_)
          have h := h v7 ev7
          refine lv_istore_n (lv' := [(2, .int (iI v7)), (1, .int (iI v5)), (3, .int (iI v5)), (0, .int (iI p0))]) hx hb dA_rootOf_26 rfl hl (by decide) rfl (fun ls hl => ?_)
          refine lv_goto (tgt := 6) hx hb dA_rootOf_27 (by decide) ?_
          exact ih1 v7 v5 ls (lv_sub hl [0, 1, 3] rfl) h
  exact lW1 k1 1024 0 ls (lv_sub hl [0, 1, 2] rfl) h
abbrev rm_A_greatestRadius : Room := { frames := 5, cells := 0, slots := 0, locals := 119 }
set_option maxHeartbeats 4000000 in
set_option maxRecDepth 100000 in
theorem c_A_greatestRadius (l : Launch) (dC : Nat → ClassId) (dI : Nat → Nat → Nat) (ad : Nat → Nat) (kc : Nat → ClassId) (nn : Nat → Nat) (σ : kM) {P : Int → kM → Prop} (h : wp_A_greatestRadius nn σ P) : kMi l y_A_greatestRadius ws_A_greatestRadius rm_A_greatestRadius (dC, dI) vwC (tyC kc) (wC ad kc nn) nsG σ [.ref (ad 2)] P := by
  intro sz
  refine k_enter (cc := b_A_greatestRadius) (maxL := 1) (ret := (some .int)) (by decide) rfl (Nat.le_of_ble_eq_true rfl) ?_
  intro p e s m below meth c ls S hr hlocks hsz hA hW hK hN hl
  generalize va_A ((wC ad kc nn) σ) sz = A at hA hW ⊢
  generalize ([.ref (ad 2)] : List Value).toArray = args at S ⊢
  obtain ⟨hx, hb, hml, hown, hts⟩ := id S
  have hl : lv_has ls 1 [(0, .ref (ad 2))] := hl
  unfold wp_A_greatestRadius at h
  refine lv_aload_n hx hb dA_greatestRadius_0 rfl (lv_at hl 0 rfl) ?_
  obtain ⟨P1, g1, h⟩ := h
  refine kc_vv (As := []) (rest := []) (ci := 2) (q0 := 2) S (c_A_seekIfStale l dC dI ad kc nn σ g1) (cwV 0 hts (gV mw_245 mw_247 ps_0 mw_4 k_A_seekIfStale) rfl rfl rfl (by decide +kernel) ⟨Nat.le_of_ble_eq_true rfl, Nat.le_of_ble_eq_true rfl⟩) hK hN hA hW (fun _ => rfl) rfl rfl rfl hl.1 rfl (Nat.le_of_ble_eq_true rfl) dA_greatestRadius_1 ⟨Nat.zero_le _, Nat.zero_le _⟩ (fun s1 H locs hp hW => ?_)
  have h := h s1 hp
  refine lv_aload_n hx hb dA_greatestRadius_4 rfl (lv_at hl 0 rfl) ?_
  refine k_get (ci := 2) (C := R_A) (T := T_A) (N := 6) hx hb hts (fun w q => gG_in (inG_A w q)) hown hK hW.1 2 rfl rfl 4 (by decide) (hts _ (gG_in mw_89)) rfl dA_greatestRadius_5 ?_
  refine lv_sipush (v := iI 10000) hx hb dA_greatestRadius_8 (by decide) ?_
  refine ki_mul hx hb dA_greatestRadius_11 ?_
  obtain ⟨P2, g2, h⟩ := h
  refine kc_sp (As := [.int (iI ((s1 2 4) * 10000))]) (rest := []) S (c_A_rootOf l dC dI (tyC kc) (wC ad kc nn) nn s1 ((s1 2 4) * 10000) g2) (cwS 1 hts (gS mw_313 mw_314 mw_4 k_A_rootOf) rfl rfl rfl (by decide +kernel) ⟨Nat.le_of_ble_eq_true rfl, Nat.le_of_ble_eq_true rfl⟩) hK hN hW.1 rfl hl.1 rfl (Nat.le_of_ble_eq_true rfl) dA_greatestRadius_12 ⟨Nat.zero_le _, Nat.zero_le _⟩ (fun r1 hp => ?_)
  have h := h r1 hp
  refine lv_aload_n hx hb dA_greatestRadius_15 rfl (lv_at hl 0 rfl) ?_
  refine k_get (ci := 2) (C := R_A) (T := T_A) (N := 6) hx hb hts (fun w q => gG_in (inG_A w q)) hown hK hW.1 2 rfl rfl 2 (by decide) (hts _ (gG_in mw_87)) rfl dA_greatestRadius_16 ?_
  obtain ⟨q1, h⟩ := h
  refine ki_div hx hb dA_greatestRadius_19 q1 ?_
  exact k_iret hx hb hr hlocks hW dA_greatestRadius_20 h
abbrev rm_P_radius : Room := { frames := 6, cells := 0, slots := 0, locals := 139 }
set_option maxHeartbeats 4000000 in
set_option maxRecDepth 100000 in
theorem c_P_radius (l : Launch) (dC : Nat → ClassId) (dI : Nat → Nat → Nat) (ad : Nat → Nat) (kc : Nat → ClassId) (nn : Nat → Nat) (σ : kM) {P : Int → kM → Prop} (h : wp_P_radius nn σ P) : kMi l y_P_radius ws_P_radius rm_P_radius (dC, dI) vwC (tyC kc) (wC ad kc nn) nsG σ [.ref (ad 0)] P := by
  intro sz
  refine k_enter (cc := b_P_radius) (maxL := 1) (ret := (some .int)) (by decide) rfl (Nat.le_of_ble_eq_true rfl) ?_
  intro p e s m below meth c ls S hr hlocks hsz hA hW hK hN hl
  generalize va_A ((wC ad kc nn) σ) sz = A at hA hW ⊢
  generalize ([.ref (ad 0)] : List Value).toArray = args at S ⊢
  obtain ⟨hx, hb, hml, hown, hts⟩ := id S
  have hl : lv_has ls 1 [(0, .ref (ad 0))] := hl
  unfold wp_P_radius at h
  refine lv_aload_n hx hb dP_radius_0 rfl (lv_at hl 0 rfl) ?_
  refine k_get (ci := 0) (C := R_P) (T := T_P) (N := 7) hx hb hts (fun w q => gG_in (inG_P w q)) hown hK hW.1 0 rfl rfl 1 (by decide) (hts _ (gG_in mw_216)) rfl dP_radius_1 ?_
  obtain ⟨P1, g1, h⟩ := h
  refine kc_vi (As := []) (rest := []) (ci := 2) (q0 := 2) S (c_A_greatestRadius l dC dI ad kc nn σ g1) (cwV 0 hts (gV mw_309 mw_310 mw_311 mw_4 k_A_greatestRadius) rfl rfl rfl (by decide +kernel) ⟨Nat.le_of_ble_eq_true rfl, Nat.le_of_ble_eq_true rfl⟩) hK hN hA hW (fun _ => rfl) rfl rfl rfl hl.1 rfl (Nat.le_of_ble_eq_true rfl) dP_radius_4 ⟨Nat.zero_le _, Nat.zero_le _⟩ (fun r1 s1 H locs hp hW => ?_)
  have h := h r1 s1 hp
  exact k_iret hx hb hr hlocks hW dP_radius_7 h
abbrev rm_S_hasCorner : Room := { frames := 1, cells := 0, slots := 0, locals := 22 }
set_option maxHeartbeats 4000000 in
set_option maxRecDepth 100000 in
theorem c_S_hasCorner (l : Launch) (dC : Nat → ClassId) (dI : Nat → Nat → Nat) (ad : Nat → Nat) (kc : Nat → ClassId) (nn : Nat → Nat) (σ : kM) (p0 : Int) (p1 : Int) {P : Int → Prop} (h : wp_S_hasCorner nn σ p0 p1 P) : kMp l y_S_hasCorner ws_S_hasCorner rm_S_hasCorner (dC, dI) vwC (tyC kc) (wC ad kc nn) nsG σ [.ref (ad 1), .int (iI p0), .int (iI p1)] P := by
  refine k_enterP (cc := b_S_hasCorner) (maxL := 3) (ret := (some .boolean)) (by decide) rfl (Nat.le_of_ble_eq_true rfl) ?_
  intro p e s m below meth c ls S hr hlocks hP hK hN hl
  generalize ([.ref (ad 1), .int (iI p0), .int (iI p1)] : List Value).toArray = args at S ⊢
  obtain ⟨hx, hb, hml, hown, hts⟩ := id S
  have hl : lv_has ls 3 [(0, .ref (ad 1)), (1, .int (iI p0)), (2, .int (iI p1))] := hl
  unfold wp_S_hasCorner at h
  refine lv_iload_n hx hb dS_hasCorner_0 rfl (lv_at hl 1 rfl) ?_
  refine lv_iconst (v := iI 0) hx hb dS_hasCorner_1 rfl ?_
  refine lv_aload_n hx hb dS_hasCorner_2 rfl (lv_at hl 0 rfl) ?_
  refine k_get (ci := 1) (C := R_S) (T := T_S) (N := 9) hx hb hts (fun w q => gG_in (inG_S w q)) hown hK hP 1 rfl rfl 1 (by decide) (hts _ (gG_in mw_42)) rfl dS_hasCorner_3 ?_
  obtain ⟨P1, g1, h⟩ := h
  refine kc_np (As := [.int (iI p0), .int (iI 0), .int (iI (σ 1 1))]) (rest := []) S (c_P_isWithin l dC dI (tyC kc) (wC ad kc nn) nn σ p0 0 (σ 1 1) g1) ⟨va_cnB 3 hts (gG_good k_P_isWithin) rfl rfl rfl (hN _ (List.mem_of_getElem? (i := 5) rfl)) (hts _ (gG_in mw_1)) (by decide +kernel) ⟨Nat.le_of_ble_eq_true rfl, Nat.le_of_ble_eq_true rfl⟩, hts _ (gG_in mw_332), trivial⟩ hK hN hP rfl hl.1 rfl (Nat.le_of_ble_eq_true rfl) dS_hasCorner_6 ⟨Nat.zero_le _, Nat.zero_le _⟩ (fun r1 hp => ?_)
  have h := h r1 hp
  obtain ⟨q1, h⟩ := h
  obtain ⟨ht, hf⟩ := h
  refine ki_if_eq (tgt := 28) hx hb dS_hasCorner_9 (by decide) q1 (fun c1 => ?_) (fun c1 => ?_)
  · have h := ht c1
    refine lv_iconst (v := iI 0) hx hb dS_hasCorner_28 rfl ?_
    exact k_zretP hx hb hr hlocks dS_hasCorner_29 (by decide) h
  · have h := hf c1
    refine lv_iload_n hx hb dS_hasCorner_12 rfl (lv_at hl 2 rfl) ?_
    refine lv_iconst (v := iI 0) hx hb dS_hasCorner_13 rfl ?_
    refine lv_aload_n hx hb dS_hasCorner_14 rfl (lv_at hl 0 rfl) ?_
    refine k_get (ci := 1) (C := R_S) (T := T_S) (N := 9) hx hb hts (fun w q => gG_in (inG_S w q)) hown hK hP 1 rfl rfl 1 (by decide) (hts _ (gG_in mw_42)) rfl dS_hasCorner_15 ?_
    obtain ⟨P2, g2, h⟩ := h
    refine kc_np (As := [.int (iI p1), .int (iI 0), .int (iI (σ 1 1))]) (rest := []) S (c_P_isWithin l dC dI (tyC kc) (wC ad kc nn) nn σ p1 0 (σ 1 1) g2) ⟨va_cnB 3 hts (gG_good k_P_isWithin) rfl rfl rfl (hN _ (List.mem_of_getElem? (i := 5) rfl)) (hts _ (gG_in mw_1)) (by decide +kernel) ⟨Nat.le_of_ble_eq_true rfl, Nat.le_of_ble_eq_true rfl⟩, hts _ (gG_in mw_332), trivial⟩ hK hN hP rfl hl.1 rfl (Nat.le_of_ble_eq_true rfl) dS_hasCorner_18 ⟨Nat.zero_le _, Nat.zero_le _⟩ (fun r2 hp => ?_)
    have h := h r2 hp
    obtain ⟨q2, h⟩ := h
    obtain ⟨ht, hf⟩ := h
    refine ki_if_eq (tgt := 28) hx hb dS_hasCorner_21 (by decide) q2 (fun c2 => ?_) (fun c2 => ?_)
    · have h := ht c2
      refine lv_iconst (v := iI 0) hx hb dS_hasCorner_28 rfl ?_
      exact k_zretP hx hb hr hlocks dS_hasCorner_29 (by decide) h
    · have h := hf c2
      refine lv_iconst (v := iI 1) hx hb dS_hasCorner_24 rfl ?_
      refine lv_goto (tgt := 29) hx hb dS_hasCorner_25 (by decide) ?_
      exact k_zretP hx hb hr hlocks dS_hasCorner_29 (by decide) h
