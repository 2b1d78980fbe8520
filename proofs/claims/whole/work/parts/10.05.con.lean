abbrev rm_K_answerAt : Room := { frames := 0, cells := 0, slots := 0, locals := 0 }
set_option maxHeartbeats 4000000 in
set_option maxRecDepth 100000 in
theorem c_K_answerAt (l : Launch) (dC : Nat → ClassId) (dI : Nat → Nat → Nat) (ad : Nat → Nat) (kc : Nat → ClassId) (nn : Nat → Nat) (σ : kM) (p0 : Int) {P : Int → Prop} (h : wp_K_answerAt nn σ p0 P) : kMp l y_K_answerAt ws_K_answerAt rm_K_answerAt (dC, dI) vwC (tyC kc) (wC ad kc nn) nsG σ [.ref (ad 7), .int (iI p0)] P := by
  refine k_enterP (cc := b_K_answerAt) (maxL := 3) (ret := (some .int)) (by decide) rfl (Nat.le_of_ble_eq_true rfl) ?_
  intro p e s m below meth c ls S hr hlocks hP hK hN hl
  generalize ([.ref (ad 7), .int (iI p0)] : List Value).toArray = args at S ⊢
  obtain ⟨hx, hb, hml, hown, hts⟩ := id S
  have hl : lv_has ls 3 [(0, .ref (ad 7)), (1, .int (iI p0))] := hl
  unfold wp_K_answerAt at h
  refine lv_aload_n hx hb dK_answerAt_0 rfl (lv_at hl 0 rfl) ?_
  refine k_get (ci := 7) (C := R_K) (T := T_K) (N := 3) hx hb hts (fun w q => gG_in (inG_K w q)) hown hK hP 7 rfl rfl 2 (by decide) (hts _ (gG_in mw_207)) rfl dK_answerAt_1 ?_
  refine lv_iconst (v := iI 1) hx hb dK_answerAt_4 rfl ?_
  refine ki_sub hx hb dK_answerAt_5 ?_
  refine ki_nm (fun v1 ev1 => ?_)
  have h := h v1 ev1
  refine lv_istore_n (lv' := [(2, .int (iI v1)), (0, .ref (ad 7)), (1, .int (iI p0))]) hx hb dK_answerAt_6 rfl hl (by decide) rfl (fun ls hl => ?_)
  obtain ⟨Pe1, k1, h, hk1⟩ := h
  have xW1 : ∀ (v3 : Int) (ls : Array Slot), lv_has ls 3 [] → Pe1 v3 → W p l e (headSpec ws_K_answerAt rm_K_answerAt).room s m args below meth c s.heap [] 0 0 (MQ below (kQp P) args s 0 0 (fun _ => False)) (F0 m 38 ls []) := by
    intro v3 ls hl h
    have h := hk1 v3 h
    refine lv_iconst (v := iI (-1)) hx hb dK_answerAt_38 rfl ?_
    exact k_iretP hx hb hr hlocks dK_answerAt_39 h
  have lW1 : ∀ (ki1 : Nat) (v2 : Int) (ls : Array Slot), lv_has ls 3 [(2, .int (iI v2)), (0, .ref (ad 7)), (1, .int (iI p0))] → lp_K_answerAt_7 nn p0 σ P Pe1 ki1 v2 → W p l e (headSpec ws_K_answerAt rm_K_answerAt).room s m args below meth c s.heap [] 0 0 (MQ below (kQp P) args s 0 0 (fun _ => False)) (F0 m 7 ls []) := by
    intro ki1
    induction ki1 with
    | zero => intro v2 ls hl h; exact h.elim
    | succ ki1 ih1 =>
      intro v2 ls hl h
      have h : lpB_K_answerAt_7 nn p0 σ P Pe1 (lp_K_answerAt_7 nn p0 σ P Pe1 ki1) v2 := h
      unfold lpB_K_answerAt_7 at h
      refine lv_iload_n hx hb dK_answerAt_7 rfl (lv_at hl 0 rfl) ?_
      obtain ⟨q1, h⟩ := h
      obtain ⟨ht, hf⟩ := h
      refine ki_if_lt (tgt := 38) hx hb dK_answerAt_8 (by decide) q1 (fun c1 => ?_) (fun c1 => ?_)
      · have h := ht c1
        exact xW1 v2 ls (lv_sub hl [] rfl) h
      · have h := hf c1
        refine lv_aload_n hx hb dK_answerAt_11 rfl (lv_at hl 1 rfl) ?_
        refine k_get (ci := 7) (C := R_K) (T := T_K) (N := 3) hx hb hts (fun w q => gG_in (inG_K w q)) hown hK hP 7 rfl rfl 0 (by decide) (hts _ (gG_in mw_205)) rfl dK_answerAt_12 ?_
        refine lv_iload_n hx hb dK_answerAt_15 rfl (lv_at hl 0 rfl) ?_
        obtain ⟨q2, h⟩ := h
        refine k_iald hx hb hK hP 24 16 (σ 24) rfl rfl q2 dK_answerAt_16 ?_
        refine lv_iload_n hx hb dK_answerAt_17 rfl (lv_at hl 2 rfl) ?_
        obtain ⟨q3, h⟩ := h
        obtain ⟨q4, h⟩ := h
        obtain ⟨ht, hf⟩ := h
        refine ki_icmp_lt (tgt := 32) hx hb dK_answerAt_18 (by decide) q3 q4 (fun c2 => ?_) (fun c2 => ?_)
        · have h := ht c2
          obtain ⟨v4, ev4⟩ : ∃ z : Int, z = v2 + (-1) := ⟨_, rfl⟩
          refine lv_iinc (v := iI v4) (lv' := [(2, .int (iI v4)), (0, .ref (ad 7)), (1, .int (iI p0))]) hx hb dK_answerAt_32 hl (k := 0) rfl (by rw [ev4, ← iI_add]; rfl) (by decide) rfl (fun ls hl => ?_)
          have h := h v4 ev4
          refine lv_goto (tgt := 7) hx hb dK_answerAt_35 (by decide) ?_
          exact ih1 v4 ls (lv_sub hl [0, 1, 2] rfl) h
        · have h := hf c2
          refine lv_aload_n hx hb dK_answerAt_21 rfl (lv_at hl 1 rfl) ?_
          refine k_get (ci := 7) (C := R_K) (T := T_K) (N := 3) hx hb hts (fun w q => gG_in (inG_K w q)) hown hK hP 7 rfl rfl 1 (by decide) (hts _ (gG_in mw_206)) rfl dK_answerAt_22 ?_
          refine lv_iload_n hx hb dK_answerAt_25 rfl (lv_at hl 0 rfl) ?_
          obtain ⟨q5, h⟩ := h
          refine k_iald hx hb hK hP 25 17 (σ 25) rfl rfl q5 dK_answerAt_26 ?_
          refine lv_sipush (v := iI 1000) hx hb dK_answerAt_27 (by decide) ?_
          refine ki_add hx hb dK_answerAt_30 ?_
          exact k_iretP hx hb hr hlocks dK_answerAt_31 h
  exact lW1 k1 v1 ls (lv_sub hl [0, 1, 2] rfl) h
abbrev rm_P_knife : Room := { frames := 6, cells := 0, slots := 0, locals := 82 }
set_option maxHeartbeats 4000000 in
set_option maxRecDepth 100000 in
theorem c_P_knife (l : Launch) (dC : Nat → ClassId) (dI : Nat → Nat → Nat) (ad : Nat → Nat) (kc : Nat → ClassId) (nn : Nat → Nat) (σ : kM) (p0 : Int) {P : Int → kM → Prop} (h : wp_P_knife nn σ p0 P (fun _ _ => False)) : kMi l y_P_knife ws_P_knife rm_P_knife (dC, dI) vwC (tyC kc) (wC ad kc nn) nsG σ [.ref (ad 0), .int (iI p0)] P := by
  intro sz
  refine k_enter (cc := b_P_knife) (maxL := 2) (ret := (some .int)) (by decide) rfl (Nat.le_of_ble_eq_true rfl) ?_
  intro p e s m below meth c ls S hr hlocks hsz hA hW hK hN hl
  generalize va_A ((wC ad kc nn) σ) sz = A at hA hW ⊢
  generalize ([.ref (ad 0), .int (iI p0)] : List Value).toArray = args at S ⊢
  obtain ⟨hx, hb, hml, hown, hts⟩ := id S
  have hl : lv_has ls 2 [(0, .ref (ad 0)), (1, .int (iI p0))] := hl
  unfold wp_P_knife at h
  refine lv_iload_n hx hb dP_knife_0 rfl (lv_at hl 1 rfl) ?_
  refine lv_iconst (v := iI 0) hx hb dP_knife_1 rfl ?_
  refine lv_sipush (v := iI 1000) hx hb dP_knife_2 (by decide) ?_
  obtain ⟨P1, g1, h⟩ := h
  refine kc_sp (As := [.int (iI p0), .int (iI 0), .int (iI 1000)]) (rest := []) S (c_P_isWithin l dC dI (tyC kc) (wC ad kc nn) nn σ p0 0 1000 g1) (cwS 3 hts (gS mw_425 mw_332 mw_1 k_P_isWithin) rfl rfl rfl (by decide +kernel) ⟨Nat.le_of_ble_eq_true rfl, Nat.le_of_ble_eq_true rfl⟩) hK hN hW.1 rfl hl.1 rfl (Nat.le_of_ble_eq_true rfl) dP_knife_5 ⟨Nat.zero_le _, Nat.zero_le _⟩ (fun r1 hp => ?_)
  have h := h r1 hp
  obtain ⟨q1, h⟩ := h
  obtain ⟨ht, hf⟩ := h
  refine ki_if_ne (tgt := 21) hx hb dP_knife_8 (by decide) q1 (fun c1 => ?_) (fun c1 => ?_)
  · have h := ht c1
    refine lv_aload_n hx hb dP_knife_21 rfl (lv_at hl 0 rfl) ?_
    refine k_get (ci := 0) (C := R_P) (T := T_P) (N := 7) hx hb hts (fun w q => gG_in (inG_P w q)) hown hK hW.1 0 rfl rfl 6 (by decide) (hts _ (gG_in mw_221)) rfl dP_knife_22 ?_
    refine lv_iload_n hx hb dP_knife_25 rfl (lv_at hl 1 rfl) ?_
    obtain ⟨P2, g2, h⟩ := h
    refine kc_vp (As := [.int (iI p0)]) (rest := []) (ci := 7) (q0 := 7) S (c_K_answerAt l dC dI ad kc nn σ p0 g2) (cwV 1 hts (gV mw_737 mw_738 mw_739 mw_9 k_K_answerAt) rfl rfl rfl (by decide +kernel) ⟨Nat.le_of_ble_eq_true rfl, Nat.le_of_ble_eq_true rfl⟩) hK hN hW.1 rfl rfl rfl hl.1 rfl (Nat.le_of_ble_eq_true rfl) dP_knife_26 ⟨Nat.zero_le _, Nat.zero_le _⟩ (fun r2 hp => ?_)
    have h := h r2 hp
    exact k_iret hx hb hr hlocks hW dP_knife_29 h
  · have h := hf c1
    exact False.elim h
abbrev rm_P_nearestOf : Room := { frames := 1, cells := 0, slots := 0, locals := 14 }
set_option maxHeartbeats 4000000 in
set_option maxRecDepth 100000 in
theorem c_P_nearestOf (l : Launch) (dC : Nat → ClassId) (dI : Nat → Nat → Nat) (tys : List (ClassId × FieldType)) (w : kM → va_W) (nn : Nat → Nat) (σ : kM) (p0 : Int) (p1 : Int) (p2 : Int) {P : Int → Prop} (h : wp_P_nearestOf nn σ p0 p1 p2 P) : kMp l y_P_nearestOf ws_P_nearestOf rm_P_nearestOf (dC, dI) vwC tys w nsG σ [.int (iI p0), .int (iI p1), .int (iI p2)] P := by
  refine k_enterP (cc := b_P_nearestOf) (maxL := 3) (ret := (some .int)) (by decide) rfl (Nat.le_of_ble_eq_true rfl) ?_
  intro p e s m below meth c ls S hr hlocks hP hK hN hl
  generalize ([.int (iI p0), .int (iI p1), .int (iI p2)] : List Value).toArray = args at S ⊢
  obtain ⟨hx, hb, hml, hown, hts⟩ := id S
  have hl : lv_has ls 3 [(0, .int (iI p0)), (1, .int (iI p1)), (2, .int (iI p2))] := hl
  unfold wp_P_nearestOf at h
  refine lv_iload_n hx hb dP_nearestOf_0 rfl (lv_at hl 1 rfl) ?_
  refine lv_iload_n hx hb dP_nearestOf_1 rfl (lv_at hl 2 rfl) ?_
  refine lv_iload_n hx hb dP_nearestOf_2 rfl (lv_at hl 0 rfl) ?_
  obtain ⟨q1, h⟩ := h
  obtain ⟨q2, h⟩ := h
  refine kmn hx hb (hml.trans hl.1.symm) hown (hts _ (gG_in mw_30)) (hts _ (gG_in mw_31)) (hts _ (gG_in mw_3)) (hts _ (gG_in mk_min)) ⟨Nat.le_of_ble_eq_true rfl, Nat.le_of_ble_eq_true rfl⟩ ⟨Nat.zero_le _, Nat.zero_le _⟩ q1 q2 dP_nearestOf_3 ?_
  obtain ⟨q3, h⟩ := h
  obtain ⟨q4, h⟩ := h
  refine kmx hx hb (hml.trans hl.1.symm) hown (hts _ (gG_in mw_33)) (hts _ (gG_in mw_34)) (hts _ (gG_in mw_3)) (hts _ (gG_in mk_max)) ⟨Nat.le_of_ble_eq_true rfl, Nat.le_of_ble_eq_true rfl⟩ ⟨Nat.zero_le _, Nat.zero_le _⟩ q3 q4 dP_nearestOf_6 ?_
  exact k_iretP hx hb hr hlocks dP_nearestOf_9 h
abbrev rm_S_side : Room := { frames := 0, cells := 0, slots := 0, locals := 0 }
set_option maxHeartbeats 4000000 in
set_option maxRecDepth 100000 in
theorem c_S_side (l : Launch) (dC : Nat → ClassId) (dI : Nat → Nat → Nat) (ad : Nat → Nat) (kc : Nat → ClassId) (nn : Nat → Nat) (σ : kM) {P : Int → Prop} (h : wp_S_side nn σ P) : kMp l y_S_side ws_S_side rm_S_side (dC, dI) vwC (tyC kc) (wC ad kc nn) nsG σ [.ref (ad 1)] P := by
  refine k_enterP (cc := b_S_side) (maxL := 1) (ret := (some .int)) (by decide) rfl (Nat.le_of_ble_eq_true rfl) ?_
  intro p e s m below meth c ls S hr hlocks hP hK hN hl
  generalize ([.ref (ad 1)] : List Value).toArray = args at S ⊢
  obtain ⟨hx, hb, hml, hown, hts⟩ := id S
  have hl : lv_has ls 1 [(0, .ref (ad 1))] := hl
  unfold wp_S_side at h
  refine lv_aload_n hx hb dS_side_0 rfl (lv_at hl 0 rfl) ?_
  refine k_get (ci := 1) (C := R_S) (T := T_S) (N := 9) hx hb hts (fun w q => gG_in (inG_S w q)) hown hK hP 1 rfl rfl 1 (by decide) (hts _ (gG_in mw_42)) rfl dS_side_1 ?_
  exact k_iretP hx hb hr hlocks dS_side_4 h
abbrev rm_S_parts : Room := { frames := 0, cells := 0, slots := 0, locals := 0 }
set_option maxHeartbeats 4000000 in
set_option maxRecDepth 100000 in
theorem c_S_parts (l : Launch) (dC : Nat → ClassId) (dI : Nat → Nat → Nat) (ad : Nat → Nat) (kc : Nat → ClassId) (nn : Nat → Nat) (σ : kM) {P : Int → Prop} (h : wp_S_parts nn σ P) : kMp l y_S_parts ws_S_parts rm_S_parts (dC, dI) vwC (tyC kc) (wC ad kc nn) nsG σ [.ref (ad 1)] P := by
  refine k_enterP (cc := b_S_parts) (maxL := 1) (ret := (some .int)) (by decide) rfl (Nat.le_of_ble_eq_true rfl) ?_
  intro p e s m below meth c ls S hr hlocks hP hK hN hl
  generalize ([.ref (ad 1)] : List Value).toArray = args at S ⊢
  obtain ⟨hx, hb, hml, hown, hts⟩ := id S
  have hl : lv_has ls 1 [(0, .ref (ad 1))] := hl
  unfold wp_S_parts at h
  refine lv_aload_n hx hb dS_parts_0 rfl (lv_at hl 0 rfl) ?_
  refine k_get (ci := 1) (C := R_S) (T := T_S) (N := 9) hx hb hts (fun w q => gG_in (inG_S w q)) hown hK hP 1 rfl rfl 2 (by decide) (hts _ (gG_in mw_43)) rfl dS_parts_1 ?_
  exact k_iretP hx hb hr hlocks dS_parts_4 h
