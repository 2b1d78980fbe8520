abbrev rm_C_listFromTheBegin : Room := { frames := 1, cells := 0, slots := 0, locals := 21 }
set_option maxHeartbeats 4000000 in
set_option maxRecDepth 100000 in
theorem c_C_listFromTheBegin (l : Launch) (dC : Nat → ClassId) (dI : Nat → Nat → Nat) (ad : Nat → Nat) (kc : Nat → ClassId) (nn : Nat → Nat) (σ : kM) {P : kM → Prop} (h : wp_C_listFromTheBegin nn σ P) : kMv l y_C_listFromTheBegin ws_C_listFromTheBegin rm_C_listFromTheBegin (dC, dI) vwC (tyC kc) (wC ad kc nn) nsG σ [.ref (ad 6), .ref (ad 5)] P := by
  intro sz
  refine k_enter (cc := b_C_listFromTheBegin) (maxL := 5) (ret := none) (by decide) rfl (Nat.le_of_ble_eq_true rfl) ?_
  intro p e s m below meth c ls S hr hlocks hsz hA hW hK hN hl
  generalize va_A ((wC ad kc nn) σ) sz = A at hA hW ⊢
  generalize ([.ref (ad 6), .ref (ad 5)] : List Value).toArray = args at S ⊢
  obtain ⟨hx, hb, hml, hown, hts⟩ := id S
  have hl : lv_has ls 5 [(0, .ref (ad 6)), (1, .ref (ad 5))] := hl
  unfold wp_C_listFromTheBegin at h
  refine lv_aload_n hx hb dC_listFromTheBegin_0 rfl (lv_at hl 0 rfl) ?_
  refine lv_iconst (v := iI 0) hx hb dC_listFromTheBegin_1 rfl ?_
  obtain ⟨s1, es1⟩ : ∃ z : kM, z = va_up σ 6 (va_up (σ 6) 7 0) := ⟨_, rfl⟩
  refine k_put (ty := .int) (ws' := wC ad kc nn s1) (ci := 6) (C := R_C) (T := T_C) (N := 10) hx hb hts (fun w q => gG_in (inG_C w q)) ty_C tk_C nm_C hown hK hW 6 rfl rfl 7 (by decide) (hts _ (gG_in mw_174)) rfl (by decide +kernel) rfl rfl (Nat.le_of_ble_eq_true rfl) (by rw [es1]; exact wC_p6_7 ..) dC_listFromTheBegin_2 (fun H locs hW => ?_)
  have h := h s1 es1
  refine lv_aload_n hx hb dC_listFromTheBegin_5 rfl (lv_at hl 0 rfl) ?_
  refine lv_iconst (v := iI 0) hx hb dC_listFromTheBegin_6 rfl ?_
  obtain ⟨s2, es2⟩ : ∃ z : kM, z = va_up s1 6 (va_up (s1 6) 8 0) := ⟨_, rfl⟩
  refine k_put (ty := .int) (ws' := wC ad kc nn s2) (ci := 6) (C := R_C) (T := T_C) (N := 10) hx hb hts (fun w q => gG_in (inG_C w q)) ty_C tk_C nm_C hown hK hW 6 rfl rfl 8 (by decide) (hts _ (gG_in mw_175)) rfl (by decide +kernel) rfl rfl (Nat.le_of_ble_eq_true rfl) (by rw [es2]; exact wC_p6_8 ..) dC_listFromTheBegin_7 (fun H locs hW => ?_)
  have h := h s2 es2
  refine lv_aload_n hx hb dC_listFromTheBegin_10 rfl (lv_at hl 0 rfl) ?_
  refine lv_iconst (v := iI 0) hx hb dC_listFromTheBegin_11 rfl ?_
  obtain ⟨s3, es3⟩ : ∃ z : kM, z = va_up s2 6 (va_up (s2 6) 9 0) := ⟨_, rfl⟩
  refine k_put (ty := .int) (ws' := wC ad kc nn s3) (ci := 6) (C := R_C) (T := T_C) (N := 10) hx hb hts (fun w q => gG_in (inG_C w q)) ty_C tk_C nm_C hown hK hW 6 rfl rfl 9 (by decide) (hts _ (gG_in mw_176)) rfl (by decide +kernel) rfl rfl (Nat.le_of_ble_eq_true rfl) (by rw [es3]; exact wC_p6_9 ..) dC_listFromTheBegin_12 (fun H locs hW => ?_)
  have h := h s3 es3
  refine lv_iconst (v := iI 0) hx hb dC_listFromTheBegin_15 rfl ?_
  refine lv_istore_n (lv' := [(2, .int (iI 0)), (0, .ref (ad 6)), (1, .ref (ad 5))]) hx hb dC_listFromTheBegin_16 rfl hl (by decide) rfl (fun ls hl => ?_)
  refine lv_iconst (v := iI 0) hx hb dC_listFromTheBegin_17 rfl ?_
  refine lv_istore_n (lv' := [(3, .int (iI 0)), (2, .int (iI 0)), (0, .ref (ad 6)), (1, .ref (ad 5))]) hx hb dC_listFromTheBegin_18 rfl hl (by decide) rfl (fun ls hl => ?_)
  obtain ⟨Pe1, k1, h, hk1⟩ := h
  have xW1 : ∀ (v3 : Int) (v4 : Int) (s5 : kM) (H : Heap) (locs : List Loc) (ls : Array Slot), kW (dC, dI) vwC A s.heap (wC ad kc nn s5) H locs → lv_has ls 5 [] → Pe1 v3 v4 s5 → W p l e (headSpec ws_C_listFromTheBegin rm_C_listFromTheBegin).room s m args below meth c H locs 0 0 (MQ below (kQv (dC, dI) vwC (wC ad kc nn) P A) args s 0 0 A) (F0 m 112 ls []) := by
    intro v3 v4 s5 H locs ls hW hl h
    have h := hk1 v3 v4 s5 h
    exact k_vret hx hb hr hlocks hW dC_listFromTheBegin_112 h
  have lW1 : ∀ (ki1 : Nat) (v1 : Int) (v2 : Int) (s4 : kM) (H : Heap) (locs : List Loc) (ls : Array Slot), kW (dC, dI) vwC A s.heap (wC ad kc nn s4) H locs → lv_has ls 5 [(3, .int (iI v1)), (2, .int (iI v2)), (0, .ref (ad 6)), (1, .ref (ad 5))] → lp_C_listFromTheBegin_19 nn Pe1 ki1 v1 v2 s4 → W p l e (headSpec ws_C_listFromTheBegin rm_C_listFromTheBegin).room s m args below meth c H locs 0 0 (MQ below (kQv (dC, dI) vwC (wC ad kc nn) P A) args s 0 0 A) (F0 m 19 ls []) := by
    intro ki1
    induction ki1 with
    | zero => intro v1 v2 s4 H locs ls hW hl h; exact h.elim
    | succ ki1 ih1 =>
      intro v1 v2 s4 H locs ls hW hl h
      have h : lpB_C_listFromTheBegin_19 nn Pe1 (lp_C_listFromTheBegin_19 nn Pe1 ki1) v1 v2 s4 := h
      unfold lpB_C_listFromTheBegin_19 at h
      refine lv_iload_n hx hb dC_listFromTheBegin_19 rfl (lv_at hl 0 rfl) ?_
      refine lv_aload_n hx hb dC_listFromTheBegin_20 rfl (lv_at hl 2 rfl) ?_
      refine k_get (ci := 6) (C := R_C) (T := T_C) (N := 10) hx hb hts (fun w q => gG_in (inG_C w q)) hown hK hW.1 6 rfl rfl 6 (by decide) (hts _ (gG_in mw_173)) rfl dC_listFromTheBegin_21 ?_
      obtain ⟨q1, h⟩ := h
      obtain ⟨q2, h⟩ := h
      obtain ⟨ht, hf⟩ := h
      refine ki_icmp_ge (tgt := 112) hx hb dC_listFromTheBegin_24 (by decide) q1 q2 (fun c1 => ?_) (fun c1 => ?_)
      · have h := ht c1
        exact xW1 v1 v2 s4 _ _ ls hW (lv_sub hl [] rfl) h
      · have h := hf c1
        refine lv_iload_n hx hb dC_listFromTheBegin_27 rfl (lv_at hl 0 rfl) ?_
        refine lv_iload_n hx hb dC_listFromTheBegin_28 rfl (lv_at hl 1 rfl) ?_
        obtain ⟨q3, h⟩ := h
        obtain ⟨q4, h⟩ := h
        obtain ⟨ht, hf⟩ := h
        refine ki_icmp_ge (tgt := 35) hx hb dC_listFromTheBegin_29 (by decide) q3 q4 (fun c2 => ?_) (fun c2 => ?_)
        · have h := ht c2
          refine lv_aload_n hx hb dC_listFromTheBegin_35 rfl (lv_at hl 2 rfl) ?_
          refine k_get (ci := 6) (C := R_C) (T := T_C) (N := 10) hx hb hts (fun w q => gG_in (inG_C w q)) hown hK hW.1 6 rfl rfl 2 (by decide) (hts _ (gG_in mw_169)) rfl dC_listFromTheBegin_36 ?_
          refine lv_iload_n hx hb dC_listFromTheBegin_39 rfl (lv_at hl 0 rfl) ?_
          obtain ⟨q5, h⟩ := h
          refine k_iald hx hb hK hW.1 21 13 (s4 21) rfl rfl q5 dC_listFromTheBegin_40 ?_
          refine ki_nm (fun v5 ev5 => ?_)
          have h := h v5 ev5
          refine lv_istore (lv' := [(4, .int (iI v5)), (3, .int (iI v1)), (2, .int (iI v2)), (0, .ref (ad 6)), (1, .ref (ad 5))]) hx hb dC_listFromTheBegin_41 hl (by decide) rfl (fun ls hl => ?_)
          refine lv_iload hx hb dC_listFromTheBegin_43 (lv_at hl 0 rfl) ?_
          refine lv_iconst (v := iI (-1)) hx hb dC_listFromTheBegin_45 rfl ?_
          obtain ⟨q6, h⟩ := h
          obtain ⟨ht, hf⟩ := h
          refine ki_icmp_ne (tgt := 62) hx hb dC_listFromTheBegin_46 (by decide) q6 (by constructor <;> decide) (fun c3 => ?_) (fun c3 => ?_)
          · have h := ht c3
            refine lv_aload_n hx hb dC_listFromTheBegin_62 rfl (lv_at hl 3 rfl) ?_
            refine k_get (ci := 6) (C := R_C) (T := T_C) (N := 10) hx hb hts (fun w q => gG_in (inG_C w q)) hown hK hW.1 6 rfl rfl 3 (by decide) (hts _ (gG_in mw_170)) rfl dC_listFromTheBegin_63 ?_
            refine lv_aload_n hx hb dC_listFromTheBegin_66 rfl (lv_at hl 3 rfl) ?_
            refine k_get (ci := 6) (C := R_C) (T := T_C) (N := 10) hx hb hts (fun w q => gG_in (inG_C w q)) hown hK hW.1 6 rfl rfl 7 (by decide) (hts _ (gG_in mw_174)) rfl dC_listFromTheBegin_67 ?_
            refine lv_iload_n hx hb dC_listFromTheBegin_70 rfl (lv_at hl 1 rfl) ?_
            obtain ⟨q7, h⟩ := h
            obtain ⟨s6, es6⟩ : ∃ z : kM, z = va_up s4 22 (va_up (s4 22) (s4 6 7).toNat v1) := ⟨_, rfl⟩
            refine k_iast (ws' := wC ad kc nn s6) hx hb hK hW 22 14 (s4 22) rfl rfl q7 (by rw [es6]; exact wC_a22 ..) dC_listFromTheBegin_71 (fun H locs hW => ?_)
            have h := h s6 es6
            refine lv_aload_n hx hb dC_listFromTheBegin_72 rfl (lv_at hl 3 rfl) ?_
            refine lv_dup hx hb dC_listFromTheBegin_73 rfl ?_
            refine k_get (ci := 6) (C := R_C) (T := T_C) (N := 10) hx hb hts (fun w q => gG_in (inG_C w q)) hown hK hW.1 6 rfl rfl 7 (by decide) (hts _ (gG_in mw_174)) rfl dC_listFromTheBegin_74 ?_
            refine lv_iconst (v := iI 1) hx hb dC_listFromTheBegin_77 rfl ?_
            refine ki_add hx hb dC_listFromTheBegin_78 ?_
            obtain ⟨s7, es7⟩ : ∃ z : kM, z = va_up s6 6 (va_up (s6 6) 7 ((s6 6 7) + 1)) := ⟨_, rfl⟩
            refine k_put (ty := .int) (ws' := wC ad kc nn s7) (ci := 6) (C := R_C) (T := T_C) (N := 10) hx hb hts (fun w q => gG_in (inG_C w q)) ty_C tk_C nm_C hown hK hW 6 rfl rfl 7 (by decide) (hts _ (gG_in mw_174)) rfl (by decide +kernel) rfl rfl (Nat.le_of_ble_eq_true rfl) (by rw [es7]; exact wC_p6_7 ..) dC_listFromTheBegin_79 (fun H locs hW => ?_)
            have h := h s7 es7
            refine lv_aload_n hx hb dC_listFromTheBegin_82 rfl (lv_at hl 3 rfl) ?_
            refine lv_dup hx hb dC_listFromTheBegin_83 rfl ?_
            refine k_get (ci := 6) (C := R_C) (T := T_C) (N := 10) hx hb hts (fun w q => gG_in (inG_C w q)) hown hK hW.1 6 rfl rfl 8 (by decide) (hts _ (gG_in mw_175)) rfl dC_listFromTheBegin_84 ?_
            refine lv_aload_n hx hb dC_listFromTheBegin_87 rfl (lv_at hl 4 rfl) ?_
            refine lv_iload hx hb dC_listFromTheBegin_88 (lv_at hl 0 rfl) ?_
            obtain ⟨P1, g1, h⟩ := h
            refine kc_vp (As := [.int (iI v5)]) (rest := [.int (iI (s7 6 8)), .ref (ad 6)]) (ci := 5) (q0 := 5) S (c_L_worth l dC dI ad kc nn s7 v5 g1) (cwV 1 hts (gV mw_645 mw_646 mw_647 mw_7 k_L_worth) rfl rfl rfl (by decide +kernel) ⟨Nat.le_of_ble_eq_true rfl, Nat.le_of_ble_eq_true rfl⟩) hK hN hW.1 rfl rfl rfl hl.1 rfl (Nat.le_of_ble_eq_true rfl) dC_listFromTheBegin_90 ⟨Nat.zero_le _, Nat.zero_le _⟩ (fun r1 hp => ?_)
            have h := h r1 hp
            refine ki_add hx hb dC_listFromTheBegin_93 ?_
            obtain ⟨s8, es8⟩ : ∃ z : kM, z = va_up s7 6 (va_up (s7 6) 8 ((s7 6 8) + r1)) := ⟨_, rfl⟩
            refine k_put (ty := .int) (ws' := wC ad kc nn s8) (ci := 6) (C := R_C) (T := T_C) (N := 10) hx hb hts (fun w q => gG_in (inG_C w q)) ty_C tk_C nm_C hown hK hW 6 rfl rfl 8 (by decide) (hts _ (gG_in mw_175)) rfl (by decide +kernel) rfl rfl (Nat.le_of_ble_eq_true rfl) (by rw [es8]; exact wC_p6_8 ..) dC_listFromTheBegin_94 (fun H locs hW => ?_)
            have h := h s8 es8
            refine lv_iload_n hx hb dC_listFromTheBegin_97 rfl (lv_at hl 1 rfl) ?_
            refine lv_aload_n hx hb dC_listFromTheBegin_98 rfl (lv_at hl 4 rfl) ?_
            refine lv_iload hx hb dC_listFromTheBegin_99 (lv_at hl 0 rfl) ?_
            obtain ⟨P2, g2, h⟩ := h
            refine kc_vp (As := [.int (iI v5)]) (rest := [.int (iI v1)]) (ci := 5) (q0 := 5) S (c_L_width l dC dI ad kc nn s8 v5 g2) (cwV 1 hts (gV mw_641 mw_642 mw_643 mw_7 k_L_width) rfl rfl rfl (by decide +kernel) ⟨Nat.le_of_ble_eq_true rfl, Nat.le_of_ble_eq_true rfl⟩) hK hN hW.1 rfl rfl rfl hl.1 rfl (Nat.le_of_ble_eq_true rfl) dC_listFromTheBegin_101 ⟨Nat.zero_le _, Nat.zero_le _⟩ (fun r2 hp => ?_)
            have h := h r2 hp
            refine ki_add hx hb dC_listFromTheBegin_104 ?_
            refine ki_nm (fun v6 ev6 => ?_)
            have h := h v6 ev6
            refine lv_istore_n (lv' := [(2, .int (iI v6)), (4, .int (iI v5)), (3, .int (iI v1)), (0, .ref (ad 6)), (1, .ref (ad 5))]) hx hb dC_listFromTheBegin_105 rfl hl (by decide) rfl (fun ls hl => ?_)
            obtain ⟨v7, ev7⟩ : ∃ z : Int, z = v1 + 1 := ⟨_, rfl⟩
            refine lv_iinc (v := iI v7) (lv' := [(3, .int (iI v7)), (2, .int (iI v6)), (4, .int (iI v5)), (0, .ref (ad 6)), (1, .ref (ad 5))]) hx hb dC_listFromTheBegin_106 hl (k := 2) rfl (by rw [ev7, ← iI_add]; rfl) (by decide) rfl (fun ls hl => ?_)
            have h := h v7 ev7
            refine lv_goto (tgt := 19) hx hb dC_listFromTheBegin_109 (by decide) ?_
            exact ih1 v7 v6 s8 _ _ ls hW (lv_sub hl [0, 1, 3, 4] rfl) h
          · have h := hf c3
            refine lv_aload_n hx hb dC_listFromTheBegin_49 rfl (lv_at hl 3 rfl) ?_
            refine lv_dup hx hb dC_listFromTheBegin_50 rfl ?_
            refine k_get (ci := 6) (C := R_C) (T := T_C) (N := 10) hx hb hts (fun w q => gG_in (inG_C w q)) hown hK hW.1 6 rfl rfl 9 (by decide) (hts _ (gG_in mw_176)) rfl dC_listFromTheBegin_51 ?_
            refine lv_iconst (v := iI 1) hx hb dC_listFromTheBegin_54 rfl ?_
            refine ki_add hx hb dC_listFromTheBegin_55 ?_
            obtain ⟨s9, es9⟩ : ∃ z : kM, z = va_up s4 6 (va_up (s4 6) 9 ((s4 6 9) + 1)) := ⟨_, rfl⟩
            refine k_put (ty := .int) (ws' := wC ad kc nn s9) (ci := 6) (C := R_C) (T := T_C) (N := 10) hx hb hts (fun w q => gG_in (inG_C w q)) ty_C tk_C nm_C hown hK hW 6 rfl rfl 9 (by decide) (hts _ (gG_in mw_176)) rfl (by decide +kernel) rfl rfl (Nat.le_of_ble_eq_true rfl) (by rw [es9]; exact wC_p6_9 ..) dC_listFromTheBegin_56 (fun H locs hW => ?_)
            have h := h s9 es9
            refine lv_goto (tgt := 106) hx hb dC_listFromTheBegin_59 (by decide) ?_
            obtain ⟨v8, ev8⟩ : ∃ z : Int, z = v1 + 1 := ⟨_, rfl⟩
            refine lv_iinc (v := iI v8) (lv' := [(3, .int (iI v8)), (4, .int (iI v5)), (2, .int (iI v2)), (0, .ref (ad 6)), (1, .ref (ad 5))]) hx hb dC_listFromTheBegin_106 hl (k := 1) rfl (by rw [ev8, ← iI_add]; rfl) (by decide) rfl (fun ls hl => ?_)
            have h := h v8 ev8
            refine lv_goto (tgt := 19) hx hb dC_listFromTheBegin_109 (by decide) ?_
            exact ih1 v8 v2 s9 _ _ ls hW (lv_sub hl [0, 2, 3, 4] rfl) h
        · have h := hf c2
          refine lv_goto (tgt := 106) hx hb dC_listFromTheBegin_32 (by decide) ?_
          obtain ⟨v9, ev9⟩ : ∃ z : Int, z = v1 + 1 := ⟨_, rfl⟩
          refine lv_iinc (v := iI v9) (lv' := [(3, .int (iI v9)), (2, .int (iI v2)), (0, .ref (ad 6)), (1, .ref (ad 5))]) hx hb dC_listFromTheBegin_106 hl (k := 0) rfl (by rw [ev9, ← iI_add]; rfl) (by decide) rfl (fun ls hl => ?_)
          have h := h v9 ev9
          refine lv_goto (tgt := 19) hx hb dC_listFromTheBegin_109 (by decide) ?_
          exact ih1 v9 v2 s4 _ _ ls hW (lv_sub hl [0, 1, 2, 3] rfl) h
  exact lW1 k1 0 0 s3 _ _ ls hW (lv_sub hl [0, 1, 2, 3] rfl) h
abbrev rm_C_cut : Room := { frames := 5, cells := 0, slots := 0, locals := 112 }
set_option maxHeartbeats 4000000 in
set_option maxRecDepth 100000 in
theorem c_C_cut (l : Launch) (dC : Nat → ClassId) (dI : Nat → Nat → Nat) (ad : Nat → Nat) (kc : Nat → ClassId) (nn : Nat → Nat) (σ : kM) (p3 : Int) {P : kM → Prop} (h : wp_C_cut nn σ p3 P) : kMv l y_C_cut ws_C_cut rm_C_cut (dC, dI) vwC (tyC kc) (wC ad kc nn) nsG σ [.ref (ad 6), .ref (ad 3), .ref (ad 4), .ref (ad 5), .int (iI p3)] P := by
  intro sz
  refine k_enter (cc := b_C_cut) (maxL := 6) (ret := none) (by decide) rfl (Nat.le_of_ble_eq_true rfl) ?_
  intro p e s m below meth c ls S hr hlocks hsz hA hW hK hN hl
  generalize va_A ((wC ad kc nn) σ) sz = A at hA hW ⊢
  generalize ([.ref (ad 6), .ref (ad 3), .ref (ad 4), .ref (ad 5), .int (iI p3)] : List Value).toArray = args at S ⊢
  obtain ⟨hx, hb, hml, hown, hts⟩ := id S
  have hl : lv_has ls 6 [(0, .ref (ad 6)), (1, .ref (ad 3)), (2, .ref (ad 4)), (3, .ref (ad 5)), (4, .int (iI p3))] := hl
  unfold wp_C_cut at h
  refine lv_iconst (v := iI 1) hx hb dC_cut_0 rfl ?_
  refine lv_iload hx hb dC_cut_1 (lv_at hl 4 rfl) ?_
  obtain ⟨q1, h⟩ := h
  refine kmx hx hb (hml.trans hl.1.symm) hown (hts _ (gG_in mw_609)) (hts _ (gG_in mw_34)) (hts _ (gG_in mw_3)) (hts _ (gG_in mk_max)) ⟨Nat.le_of_ble_eq_true rfl, Nat.le_of_ble_eq_true rfl⟩ ⟨Nat.zero_le _, Nat.zero_le _⟩ (by constructor <;> decide) q1 dC_cut_3 ?_
  refine ki_nm (fun v1 ev1 => ?_)
  have h := h v1 ev1
  refine lv_istore (lv' := [(5, .int (iI v1)), (0, .ref (ad 6)), (1, .ref (ad 3)), (2, .ref (ad 4)), (3, .ref (ad 5)), (4, .int (iI p3))]) hx hb dC_cut_6 hl (by decide) rfl (fun ls hl => ?_)
  refine lv_aload_n hx hb dC_cut_8 rfl (lv_at hl 1 rfl) ?_
  refine lv_sipush (v := iI 2000) hx hb dC_cut_9 (by decide) ?_
  refine lv_aload_n hx hb dC_cut_12 rfl (lv_at hl 2 rfl) ?_
  obtain ⟨P1, g1, h⟩ := h
  refine kc_vp (As := []) (rest := [.int (iI 2000), .ref (ad 6)]) (ci := 3) (q0 := 3) S (c_R_length l dC dI ad kc nn σ g1) (cwV 0 hts (gV mw_610 mw_611 mw_612 mw_5 k_R_length) rfl rfl rfl (by decide +kernel) ⟨Nat.le_of_ble_eq_true rfl, Nat.le_of_ble_eq_true rfl⟩) hK hN hW.1 rfl rfl rfl hl.1 rfl (Nat.le_of_ble_eq_true rfl) dC_cut_13 ⟨Nat.zero_le _, Nat.zero_le _⟩ (fun r1 hp => ?_)
  have h := h r1 hp
  refine lv_iload hx hb dC_cut_16 (lv_at hl 0 rfl) ?_
  obtain ⟨q2, h⟩ := h
  refine ki_div hx hb dC_cut_18 q2 ?_
  obtain ⟨q3, h⟩ := h
  refine kmn hx hb (hml.trans hl.1.symm) hown (hts _ (gG_in mw_614)) (hts _ (gG_in mw_31)) (hts _ (gG_in mw_3)) (hts _ (gG_in mk_min)) ⟨Nat.le_of_ble_eq_true rfl, Nat.le_of_ble_eq_true rfl⟩ ⟨Nat.zero_le _, Nat.zero_le _⟩ (by constructor <;> decide) q3 dC_cut_19 ?_
  obtain ⟨s1, es1⟩ : ∃ z : kM, z = va_up σ 6 (va_up (σ 6) 6 (if (r1 / v1) < 2000 then r1 / v1 else 2000)) := ⟨_, rfl⟩
  refine k_put (ty := .int) (ws' := wC ad kc nn s1) (ci := 6) (C := R_C) (T := T_C) (N := 10) hx hb hts (fun w q => gG_in (inG_C w q)) ty_C tk_C nm_C hown hK hW 6 rfl rfl 6 (by decide) (hts _ (gG_in mw_173)) rfl (by decide +kernel) rfl rfl (Nat.le_of_ble_eq_true rfl) (by rw [es1]; exact wC_p6_6 ..) dC_cut_22 (fun H locs hW => ?_)
  have h := h s1 es1
  refine lv_aload_n hx hb dC_cut_25 rfl (lv_at hl 1 rfl) ?_
  refine lv_aload_n hx hb dC_cut_26 rfl (lv_at hl 2 rfl) ?_
  refine lv_aload_n hx hb dC_cut_27 rfl (lv_at hl 3 rfl) ?_
  refine lv_iload hx hb dC_cut_28 (lv_at hl 0 rfl) ?_
  obtain ⟨P2, g2, h⟩ := h
  refine kc_vv (As := [.ref (ad 3), .ref (ad 4), .int (iI v1)]) (rest := []) (ci := 6) (q0 := 6) S (c_C_markFaults l dC dI ad kc nn s1 v1 g2) (cwV 3 hts (gV mw_615 mw_617 ps_12 mw_8 k_C_markFaults) rfl rfl rfl (by decide +kernel) ⟨Nat.le_of_ble_eq_true rfl, Nat.le_of_ble_eq_true rfl⟩) hK hN hA hW (fun _ => rfl) rfl rfl rfl hl.1 rfl (Nat.le_of_ble_eq_true rfl) dC_cut_30 ⟨Nat.zero_le _, Nat.zero_le _⟩ (fun s2 H locs hp hW => ?_)
  have h := h s2 hp
  refine lv_aload_n hx hb dC_cut_33 rfl (lv_at hl 1 rfl) ?_
  refine lv_aload_n hx hb dC_cut_34 rfl (lv_at hl 4 rfl) ?_
  obtain ⟨P3, g3, h⟩ := h
  refine kc_vv (As := [.ref (ad 5)]) (rest := []) (ci := 6) (q0 := 6) S (c_C_chooseFromTheEnd l dC dI ad kc nn s2 g3) (cwV 1 hts (gV mw_628 mw_630 ps_13 mw_8 k_C_chooseFromTheEnd) rfl rfl rfl (by decide +kernel) ⟨Nat.le_of_ble_eq_true rfl, Nat.le_of_ble_eq_true rfl⟩) hK hN hA hW (fun _ => rfl) rfl rfl rfl hl.1 rfl (Nat.le_of_ble_eq_true rfl) dC_cut_35 ⟨Nat.zero_le _, Nat.zero_le _⟩ (fun s3 H locs hp hW => ?_)
  have h := h s3 hp
  refine lv_aload_n hx hb dC_cut_38 rfl (lv_at hl 1 rfl) ?_
  refine lv_aload_n hx hb dC_cut_39 rfl (lv_at hl 4 rfl) ?_
  obtain ⟨P4, g4, h⟩ := h
  refine kc_vv (As := [.ref (ad 5)]) (rest := []) (ci := 6) (q0 := 6) S (c_C_listFromTheBegin l dC dI ad kc nn s3 g4) (cwV 1 hts (gV mw_654 mw_656 ps_16 mw_8 k_C_listFromTheBegin) rfl rfl rfl (by decide +kernel) ⟨Nat.le_of_ble_eq_true rfl, Nat.le_of_ble_eq_true rfl⟩) hK hN hA hW (fun _ => rfl) rfl rfl rfl hl.1 rfl (Nat.le_of_ble_eq_true rfl) dC_cut_40 ⟨Nat.zero_le _, Nat.zero_le _⟩ (fun s4 H locs hp hW => ?_)
  have h := h s4 hp
  refine lv_aload_n hx hb dC_cut_43 rfl (lv_at hl 1 rfl) ?_
  refine lv_iconst (v := iI 1) hx hb dC_cut_44 rfl ?_
  obtain ⟨s5, es5⟩ : ∃ z : kM, z = va_up s4 6 (va_up (s4 6) 5 1) := ⟨_, rfl⟩
  refine k_put (ty := .boolean) (ws' := wC ad kc nn s5) (ci := 6) (C := R_C) (T := T_C) (N := 10) hx hb hts (fun w q => gG_in (inG_C w q)) ty_C tk_C nm_C hown hK hW 6 rfl rfl 5 (by decide) (hts _ (gG_in mw_172)) rfl (by decide +kernel) (narZ (by decide)) (fitZ (by decide)) (Nat.le_of_ble_eq_true rfl) (by rw [es5]; exact wC_p6_5 ..) dC_cut_45 (fun H locs hW => ?_)
  have h := h s5 es5
  exact k_vret hx hb hr hlocks hW dC_cut_48 h
abbrev rm_C_count : Room := { frames := 0, cells := 0, slots := 0, locals := 0 }
set_option maxHeartbeats 4000000 in
set_option maxRecDepth 100000 in
theorem c_C_count (l : Launch) (dC : Nat → ClassId) (dI : Nat → Nat → Nat) (ad : Nat → Nat) (kc : Nat → ClassId) (nn : Nat → Nat) (σ : kM) {P : Int → Prop} (h : wp_C_count nn σ P) : kMp l y_C_count ws_C_count rm_C_count (dC, dI) vwC (tyC kc) (wC ad kc nn) nsG σ [.ref (ad 6)] P := by
  refine k_enterP (cc := b_C_count) (maxL := 1) (ret := (some .int)) (by decide) rfl (Nat.le_of_ble_eq_true rfl) ?_
  intro p e s m below meth c ls S hr hlocks hP hK hN hl
  generalize ([.ref (ad 6)] : List Value).toArray = args at S ⊢
  obtain ⟨hx, hb, hml, hown, hts⟩ := id S
  have hl : lv_has ls 1 [(0, .ref (ad 6))] := hl
  unfold wp_C_count at h
  refine lv_aload_n hx hb dC_count_0 rfl (lv_at hl 0 rfl) ?_
  refine k_get (ci := 6) (C := R_C) (T := T_C) (N := 10) hx hb hts (fun w q => gG_in (inG_C w q)) hown hK hP 6 rfl rfl 7 (by decide) (hts _ (gG_in mw_174)) rfl dC_count_1 ?_
  exact k_iretP hx hb hr hlocks dC_count_4 h
abbrev rm_P_clip : Room := { frames := 6, cells := 0, slots := 0, locals := 137 }
set_option maxHeartbeats 4000000 in
set_option maxRecDepth 100000 in
theorem c_P_clip (l : Launch) (dC : Nat → ClassId) (dI : Nat → Nat → Nat) (ad : Nat → Nat) (kc : Nat → ClassId) (nn : Nat → Nat) (σ : kM) (p0 : Int) {P : Int → kM → Prop} (h : wp_P_clip nn σ p0 P (fun _ _ => False)) : kMi l y_P_clip ws_P_clip rm_P_clip (dC, dI) vwC (tyC kc) (wC ad kc nn) nsG σ [.ref (ad 0), .int (iI p0)] P := by
  intro sz
  refine k_enter (cc := b_P_clip) (maxL := 2) (ret := (some .int)) (by decide) rfl (Nat.le_of_ble_eq_true rfl) ?_
  intro p e s m below meth c ls S hr hlocks hsz hA hW hK hN hl
  generalize va_A ((wC ad kc nn) σ) sz = A at hA hW ⊢
  generalize ([.ref (ad 0), .int (iI p0)] : List Value).toArray = args at S ⊢
  obtain ⟨hx, hb, hml, hown, hts⟩ := id S
  have hl : lv_has ls 2 [(0, .ref (ad 0)), (1, .int (iI p0))] := hl
  unfold wp_P_clip at h
  refine lv_iload_n hx hb dP_clip_0 rfl (lv_at hl 1 rfl) ?_
  refine lv_iconst (v := iI 1) hx hb dP_clip_1 rfl ?_
  refine lv_sipush (v := iI 1000) hx hb dP_clip_2 (by decide) ?_
  obtain ⟨P1, g1, h⟩ := h
  refine kc_sp (As := [.int (iI p0), .int (iI 1), .int (iI 1000)]) (rest := []) S (c_P_isWithin l dC dI (tyC kc) (wC ad kc nn) nn σ p0 1 1000 g1) (cwS 3 hts (gS mw_425 mw_332 mw_1 k_P_isWithin) rfl rfl rfl (by decide +kernel) ⟨Nat.le_of_ble_eq_true rfl, Nat.le_of_ble_eq_true rfl⟩) hK hN hW.1 rfl hl.1 rfl (Nat.le_of_ble_eq_true rfl) dP_clip_5 ⟨Nat.zero_le _, Nat.zero_le _⟩ (fun r1 hp => ?_)
  have h := h r1 hp
  obtain ⟨q1, h⟩ := h
  obtain ⟨ht, hf⟩ := h
  refine ki_if_ne (tgt := 21) hx hb dP_clip_8 (by decide) q1 (fun c1 => ?_) (fun c1 => ?_)
  · have h := ht c1
    refine lv_aload_n hx hb dP_clip_21 rfl (lv_at hl 0 rfl) ?_
    refine k_get (ci := 0) (C := R_P) (T := T_P) (N := 7) hx hb hts (fun w q => gG_in (inG_P w q)) hown hK hW.1 0 rfl rfl 2 (by decide) (hts _ (gG_in mw_217)) rfl dP_clip_22 ?_
    obtain ⟨P2, g2, h⟩ := h
    refine kc_vp (As := []) (rest := []) (ci := 3) (q0 := 3) S (c_R_isPeeled l dC dI ad kc nn σ g2) (cwV 0 hts (gV mw_488 mw_489 mw_490 mw_5 k_R_isPeeled) rfl rfl rfl (by decide +kernel) ⟨Nat.le_of_ble_eq_true rfl, Nat.le_of_ble_eq_true rfl⟩) hK hN hW.1 rfl rfl rfl hl.1 rfl (Nat.le_of_ble_eq_true rfl) dP_clip_25 ⟨Nat.zero_le _, Nat.zero_le _⟩ (fun r2 hp => ?_)
    have h := h r2 hp
    obtain ⟨q2, h⟩ := h
    obtain ⟨ht, hf⟩ := h
    refine ki_if_ne (tgt := 41) hx hb dP_clip_28 (by decide) q2 (fun c2 => ?_) (fun c2 => ?_)
    · have h := ht c2
      refine lv_aload_n hx hb dP_clip_41 rfl (lv_at hl 0 rfl) ?_
      refine k_get (ci := 0) (C := R_P) (T := T_P) (N := 7) hx hb hts (fun w q => gG_in (inG_P w q)) hown hK hW.1 0 rfl rfl 5 (by decide) (hts _ (gG_in mw_220)) rfl dP_clip_42 ?_
      refine lv_aload_n hx hb dP_clip_45 rfl (lv_at hl 0 rfl) ?_
      refine k_get (ci := 0) (C := R_P) (T := T_P) (N := 7) hx hb hts (fun w q => gG_in (inG_P w q)) hown hK hW.1 0 rfl rfl 2 (by decide) (hts _ (gG_in mw_217)) rfl dP_clip_46 ?_
      refine lv_aload_n hx hb dP_clip_49 rfl (lv_at hl 0 rfl) ?_
      refine k_get (ci := 0) (C := R_P) (T := T_P) (N := 7) hx hb hts (fun w q => gG_in (inG_P w q)) hown hK hW.1 0 rfl rfl 3 (by decide) (hts _ (gG_in mw_218)) rfl dP_clip_50 ?_
      refine lv_aload_n hx hb dP_clip_53 rfl (lv_at hl 0 rfl) ?_
      refine k_get (ci := 0) (C := R_P) (T := T_P) (N := 7) hx hb hts (fun w q => gG_in (inG_P w q)) hown hK hW.1 0 rfl rfl 4 (by decide) (hts _ (gG_in mw_219)) rfl dP_clip_54 ?_
      refine lv_iload_n hx hb dP_clip_57 rfl (lv_at hl 1 rfl) ?_
      obtain ⟨P3, g3, h⟩ := h
      refine kc_vv (As := [.ref (ad 3), .ref (ad 4), .ref (ad 5), .int (iI p0)]) (rest := []) (ci := 6) (q0 := 6) S (c_C_cut l dC dI ad kc nn σ p0 g3) (cwV 4 hts (gV mw_605 mw_606 mw_607 mw_8 k_C_cut) rfl rfl rfl (by decide +kernel) ⟨Nat.le_of_ble_eq_true rfl, Nat.le_of_ble_eq_true rfl⟩) hK hN hA hW (fun _ => rfl) rfl rfl rfl hl.1 rfl (Nat.le_of_ble_eq_true rfl) dP_clip_58 ⟨Nat.zero_le _, Nat.zero_le _⟩ (fun s1 H locs hp hW => ?_)
      have h := h s1 hp
      refine lv_aload_n hx hb dP_clip_61 rfl (lv_at hl 0 rfl) ?_
      refine k_get (ci := 0) (C := R_P) (T := T_P) (N := 7) hx hb hts (fun w q => gG_in (inG_P w q)) hown hK hW.1 0 rfl rfl 5 (by decide) (hts _ (gG_in mw_220)) rfl dP_clip_62 ?_
      refine kc_vp (As := []) (rest := []) (ci := 6) (q0 := 6) S (c_C_count l dC dI ad kc nn s1 (P := fun r => (s1 6 7) = r) rfl) (cwV 0 hts (gV mw_658 mw_659 mw_660 mw_8 k_C_count) rfl rfl rfl (by decide +kernel) ⟨Nat.le_of_ble_eq_true rfl, Nat.le_of_ble_eq_true rfl⟩) hK hN hW.1 rfl rfl rfl hl.1 rfl (Nat.le_of_ble_eq_true rfl) dP_clip_65 ⟨Nat.zero_le _, Nat.zero_le _⟩ (fun r3 hp => ?_)
      subst hp
      exact k_iret hx hb hr hlocks hW dP_clip_68 h
    · have h := hf c2
      exact False.elim h
  · have h := hf c1
    exact False.elim h
abbrev rm_C_isDone : Room := { frames := 0, cells := 0, slots := 0, locals := 0 }
set_option maxHeartbeats 4000000 in
set_option maxRecDepth 100000 in
theorem c_C_isDone (l : Launch) (dC : Nat → ClassId) (dI : Nat → Nat → Nat) (ad : Nat → Nat) (kc : Nat → ClassId) (nn : Nat → Nat) (σ : kM) {P : Int → Prop} (h : wp_C_isDone nn σ P) : kMp l y_C_isDone ws_C_isDone rm_C_isDone (dC, dI) vwC (tyC kc) (wC ad kc nn) nsG σ [.ref (ad 6)] P := by
  refine k_enterP (cc := b_C_isDone) (maxL := 1) (ret := (some .boolean)) (by decide) rfl (Nat.le_of_ble_eq_true rfl) ?_
  intro p e s m below meth c ls S hr hlocks hP hK hN hl
  generalize ([.ref (ad 6)] : List Value).toArray = args at S ⊢
  obtain ⟨hx, hb, hml, hown, hts⟩ := id S
  have hl : lv_has ls 1 [(0, .ref (ad 6))] := hl
  unfold wp_C_isDone at h
  refine lv_aload_n hx hb dC_isDone_0 rfl (lv_at hl 0 rfl) ?_
  refine k_get (ci := 6) (C := R_C) (T := T_C) (N := 10) hx hb hts (fun w q => gG_in (inG_C w q)) hown hK hP 6 rfl rfl 5 (by decide) (hts _ (gG_in mw_172)) rfl dC_isDone_1 ?_
  exact k_zretP hx hb hr hlocks dC_isDone_4 h.1 h.2
abbrev rm_C_leafOf : Room := { frames := 0, cells := 0, slots := 0, locals := 0 }
set_option maxHeartbeats 4000000 in
set_option maxRecDepth 100000 in
theorem c_C_leafOf (l : Launch) (dC : Nat → ClassId) (dI : Nat → Nat → Nat) (ad : Nat → Nat) (kc : Nat → ClassId) (nn : Nat → Nat) (σ : kM) (p0 : Int) {P : Int → Prop} (h : wp_C_leafOf nn σ p0 P) : kMp l y_C_leafOf ws_C_leafOf rm_C_leafOf (dC, dI) vwC (tyC kc) (wC ad kc nn) nsG σ [.ref (ad 6), .int (iI p0)] P := by
  refine k_enterP (cc := b_C_leafOf) (maxL := 2) (ret := (some .int)) (by decide) rfl (Nat.le_of_ble_eq_true rfl) ?_
  intro p e s m below meth c ls S hr hlocks hP hK hN hl
  generalize ([.ref (ad 6), .int (iI p0)] : List Value).toArray = args at S ⊢
  obtain ⟨hx, hb, hml, hown, hts⟩ := id S
  have hl : lv_has ls 2 [(0, .ref (ad 6)), (1, .int (iI p0))] := hl
  unfold wp_C_leafOf at h
  refine lv_aload_n hx hb dC_leafOf_0 rfl (lv_at hl 0 rfl) ?_
  refine k_get (ci := 6) (C := R_C) (T := T_C) (N := 10) hx hb hts (fun w q => gG_in (inG_C w q)) hown hK hP 6 rfl rfl 2 (by decide) (hts _ (gG_in mw_169)) rfl dC_leafOf_1 ?_
  refine lv_aload_n hx hb dC_leafOf_4 rfl (lv_at hl 0 rfl) ?_
  refine k_get (ci := 6) (C := R_C) (T := T_C) (N := 10) hx hb hts (fun w q => gG_in (inG_C w q)) hown hK hP 6 rfl rfl 3 (by decide) (hts _ (gG_in mw_170)) rfl dC_leafOf_5 ?_
  refine lv_iload_n hx hb dC_leafOf_8 rfl (lv_at hl 1 rfl) ?_
  obtain ⟨q1, h⟩ := h
  refine k_iald hx hb hK hP 22 14 (σ 22) rfl rfl q1 dC_leafOf_9 ?_
  obtain ⟨q2, h⟩ := h
  refine k_iald hx hb hK hP 21 13 (σ 21) rfl rfl q2 dC_leafOf_10 ?_
  exact k_iretP hx hb hr hlocks dC_leafOf_11 h
abbrev rm_C_firstStepOf : Room := { frames := 0, cells := 0, slots := 0, locals := 0 }
set_option maxHeartbeats 4000000 in
set_option maxRecDepth 100000 in
theorem c_C_firstStepOf (l : Launch) (dC : Nat → ClassId) (dI : Nat → Nat → Nat) (ad : Nat → Nat) (kc : Nat → ClassId) (nn : Nat → Nat) (σ : kM) (p0 : Int) {P : Int → Prop} (h : wp_C_firstStepOf nn σ p0 P) : kMp l y_C_firstStepOf ws_C_firstStepOf rm_C_firstStepOf (dC, dI) vwC (tyC kc) (wC ad kc nn) nsG σ [.ref (ad 6), .int (iI p0)] P := by
  refine k_enterP (cc := b_C_firstStepOf) (maxL := 2) (ret := (some .int)) (by decide) rfl (Nat.le_of_ble_eq_true rfl) ?_
  intro p e s m below meth c ls S hr hlocks hP hK hN hl
  generalize ([.ref (ad 6), .int (iI p0)] : List Value).toArray = args at S ⊢
  obtain ⟨hx, hb, hml, hown, hts⟩ := id S
  have hl : lv_has ls 2 [(0, .ref (ad 6)), (1, .int (iI p0))] := hl
  unfold wp_C_firstStepOf at h
  refine lv_aload_n hx hb dC_firstStepOf_0 rfl (lv_at hl 0 rfl) ?_
  refine k_get (ci := 6) (C := R_C) (T := T_C) (N := 10) hx hb hts (fun w q => gG_in (inG_C w q)) hown hK hP 6 rfl rfl 3 (by decide) (hts _ (gG_in mw_170)) rfl dC_firstStepOf_1 ?_
  refine lv_iload_n hx hb dC_firstStepOf_4 rfl (lv_at hl 1 rfl) ?_
  obtain ⟨q1, h⟩ := h
  refine k_iald hx hb hK hP 22 14 (σ 22) rfl rfl q1 dC_firstStepOf_5 ?_
  exact k_iretP hx hb hr hlocks dC_firstStepOf_6 h
abbrev rm_P_at : Room := { frames := 6, cells := 0, slots := 0, locals := 82 }
set_option maxHeartbeats 4000000 in
set_option maxRecDepth 100000 in
theorem c_P_at (l : Launch) (dC : Nat → ClassId) (dI : Nat → Nat → Nat) (ad : Nat → Nat) (kc : Nat → ClassId) (nn : Nat → Nat) (σ : kM) (p0 : Int) (p1 : Int) {P : Int → kM → Prop} (h : wp_P_at nn σ p0 p1 P (fun _ _ => False)) : kMi l y_P_at ws_P_at rm_P_at (dC, dI) vwC (tyC kc) (wC ad kc nn) nsG σ [.ref (ad 0), .int (iI p0), .int (iI p1)] P := by
  intro sz
  refine k_enter (cc := b_P_at) (maxL := 3) (ret := (some .int)) (by decide) rfl (Nat.le_of_ble_eq_true rfl) ?_
  intro p e s m below meth c ls S hr hlocks hsz hA hW hK hN hl
  generalize va_A ((wC ad kc nn) σ) sz = A at hA hW ⊢
  generalize ([.ref (ad 0), .int (iI p0), .int (iI p1)] : List Value).toArray = args at S ⊢
  obtain ⟨hx, hb, hml, hown, hts⟩ := id S
  have hl : lv_has ls 3 [(0, .ref (ad 0)), (1, .int (iI p0)), (2, .int (iI p1))] := hl
  unfold wp_P_at at h
  refine lv_aload_n hx hb dP_at_0 rfl (lv_at hl 0 rfl) ?_
  refine k_get (ci := 0) (C := R_P) (T := T_P) (N := 7) hx hb hts (fun w q => gG_in (inG_P w q)) hown hK hW.1 0 rfl rfl 5 (by decide) (hts _ (gG_in mw_220)) rfl dP_at_1 ?_
  obtain ⟨P1, g1, h⟩ := h
  refine kc_vp (As := []) (rest := []) (ci := 6) (q0 := 6) S (c_C_isDone l dC dI ad kc nn σ g1) (cwV 0 hts (gV mw_669 mw_670 mw_671 mw_8 k_C_isDone) rfl rfl rfl (by decide +kernel) ⟨Nat.le_of_ble_eq_true rfl, Nat.le_of_ble_eq_true rfl⟩) hK hN hW.1 rfl rfl rfl hl.1 rfl (Nat.le_of_ble_eq_true rfl) dP_at_4 ⟨Nat.zero_le _, Nat.zero_le _⟩ (fun r1 hp => ?_)
  have h := h r1 hp
  obtain ⟨q1, h⟩ := h
  obtain ⟨ht, hf⟩ := h
  refine ki_if_ne (tgt := 20) hx hb dP_at_7 (by decide) q1 (fun c1 => ?_) (fun c1 => ?_)
  · have h := ht c1
    refine lv_iload_n hx hb dP_at_20 rfl (lv_at hl 1 rfl) ?_
    refine lv_iconst (v := iI 0) hx hb dP_at_21 rfl ?_
    refine lv_aload_n hx hb dP_at_22 rfl (lv_at hl 0 rfl) ?_
    refine k_get (ci := 0) (C := R_P) (T := T_P) (N := 7) hx hb hts (fun w q => gG_in (inG_P w q)) hown hK hW.1 0 rfl rfl 5 (by decide) (hts _ (gG_in mw_220)) rfl dP_at_23 ?_
    refine kc_vp (As := []) (rest := [.int (iI 0), .int (iI p0)]) (ci := 6) (q0 := 6) S (c_C_count l dC dI ad kc nn σ (P := fun r => (σ 6 7) = r) rfl) (cwV 0 hts (gV mw_658 mw_659 mw_660 mw_8 k_C_count) rfl rfl rfl (by decide +kernel) ⟨Nat.le_of_ble_eq_true rfl, Nat.le_of_ble_eq_true rfl⟩) hK hN hW.1 rfl rfl rfl hl.1 rfl (Nat.le_of_ble_eq_true rfl) dP_at_26 ⟨Nat.zero_le _, Nat.zero_le _⟩ (fun r2 hp => ?_)
    subst hp
    refine lv_iconst (v := iI 1) hx hb dP_at_29 rfl ?_
    refine ki_sub hx hb dP_at_30 ?_
    obtain ⟨P2, g2, h⟩ := h
    refine kc_sp (As := [.int (iI p0), .int (iI 0), .int (iI ((σ 6 7) - 1))]) (rest := []) S (c_P_isWithin l dC dI (tyC kc) (wC ad kc nn) nn σ p0 0 ((σ 6 7) - 1) g2) (cwS 3 hts (gS mw_425 mw_332 mw_1 k_P_isWithin) rfl rfl rfl (by decide +kernel) ⟨Nat.le_of_ble_eq_true rfl, Nat.le_of_ble_eq_true rfl⟩) hK hN hW.1 rfl hl.1 rfl (Nat.le_of_ble_eq_true rfl) dP_at_31 ⟨Nat.zero_le _, Nat.zero_le _⟩ (fun r3 hp => ?_)
    have h := h r3 hp
    obtain ⟨q2, h⟩ := h
    obtain ⟨ht, hf⟩ := h
    refine ki_if_eq (tgt := 46) hx hb dP_at_34 (by decide) q2 (fun c2 => ?_) (fun c2 => ?_)
    · have h := ht c2
      exact False.elim h
    · have h := hf c2
      refine lv_iload_n hx hb dP_at_37 rfl (lv_at hl 2 rfl) ?_
      refine lv_iconst (v := iI 0) hx hb dP_at_38 rfl ?_
      refine lv_iconst (v := iI 1) hx hb dP_at_39 rfl ?_
      obtain ⟨P3, g3, h⟩ := h
      refine kc_sp (As := [.int (iI p1), .int (iI 0), .int (iI 1)]) (rest := []) S (c_P_isWithin l dC dI (tyC kc) (wC ad kc nn) nn σ p1 0 1 g3) (cwS 3 hts (gS mw_425 mw_332 mw_1 k_P_isWithin) rfl rfl rfl (by decide +kernel) ⟨Nat.le_of_ble_eq_true rfl, Nat.le_of_ble_eq_true rfl⟩) hK hN hW.1 rfl hl.1 rfl (Nat.le_of_ble_eq_true rfl) dP_at_40 ⟨Nat.zero_le _, Nat.zero_le _⟩ (fun r4 hp => ?_)
      have h := h r4 hp
      obtain ⟨q3, h⟩ := h
      obtain ⟨ht, hf⟩ := h
      refine ki_if_ne (tgt := 56) hx hb dP_at_43 (by decide) q3 (fun c3 => ?_) (fun c3 => ?_)
      · have h := ht c3
        refine lv_iload_n hx hb dP_at_56 rfl (lv_at hl 2 rfl) ?_
        obtain ⟨q4, h⟩ := h
        obtain ⟨ht, hf⟩ := h
        refine ki_if_ne (tgt := 71) hx hb dP_at_57 (by decide) q4 (fun c4 => ?_) (fun c4 => ?_)
        · have h := ht c4
          refine lv_aload_n hx hb dP_at_71 rfl (lv_at hl 0 rfl) ?_
          refine k_get (ci := 0) (C := R_P) (T := T_P) (N := 7) hx hb hts (fun w q => gG_in (inG_P w q)) hown hK hW.1 0 rfl rfl 5 (by decide) (hts _ (gG_in mw_220)) rfl dP_at_72 ?_
          refine lv_iload_n hx hb dP_at_75 rfl (lv_at hl 1 rfl) ?_
          obtain ⟨P4, g4, h⟩ := h
          refine kc_vp (As := [.int (iI p0)]) (rest := []) (ci := 6) (q0 := 6) S (c_C_firstStepOf l dC dI ad kc nn σ p0 g4) (cwV 1 hts (gV mw_679 mw_680 mw_681 mw_8 k_C_firstStepOf) rfl rfl rfl (by decide +kernel) ⟨Nat.le_of_ble_eq_true rfl, Nat.le_of_ble_eq_true rfl⟩) hK hN hW.1 rfl rfl rfl hl.1 rfl (Nat.le_of_ble_eq_true rfl) dP_at_76 ⟨Nat.zero_le _, Nat.zero_le _⟩ (fun r5 hp => ?_)
          have h := h r5 hp
          exact k_iret hx hb hr hlocks hW dP_at_79 h
        · have h := hf c4
          refine lv_aload_n hx hb dP_at_60 rfl (lv_at hl 0 rfl) ?_
          refine k_get (ci := 0) (C := R_P) (T := T_P) (N := 7) hx hb hts (fun w q => gG_in (inG_P w q)) hown hK hW.1 0 rfl rfl 5 (by decide) (hts _ (gG_in mw_220)) rfl dP_at_61 ?_
          refine lv_iload_n hx hb dP_at_64 rfl (lv_at hl 1 rfl) ?_
          obtain ⟨P5, g5, h⟩ := h
          refine kc_vp (As := [.int (iI p0)]) (rest := []) (ci := 6) (q0 := 6) S (c_C_leafOf l dC dI ad kc nn σ p0 g5) (cwV 1 hts (gV mw_675 mw_676 mw_677 mw_8 k_C_leafOf) rfl rfl rfl (by decide +kernel) ⟨Nat.le_of_ble_eq_true rfl, Nat.le_of_ble_eq_true rfl⟩) hK hN hW.1 rfl rfl rfl hl.1 rfl (Nat.le_of_ble_eq_true rfl) dP_at_65 ⟨Nat.zero_le _, Nat.zero_le _⟩ (fun r6 hp => ?_)
          have h := h r6 hp
          refine lv_goto (tgt := 79) hx hb dP_at_68 (by decide) ?_
          exact k_iret hx hb hr hlocks hW dP_at_79 h
      · have h := hf c3
        exact False.elim h
  · have h := hf c1
    exact False.elim h
abbrev rm_C_worth : Room := { frames := 0, cells := 0, slots := 0, locals := 0 }
set_option maxHeartbeats 4000000 in
set_option maxRecDepth 100000 in
theorem c_C_worth (l : Launch) (dC : Nat → ClassId) (dI : Nat → Nat → Nat) (ad : Nat → Nat) (kc : Nat → ClassId) (nn : Nat → Nat) (σ : kM) {P : Int → Prop} (h : wp_C_worth nn σ P) : kMp l y_C_worth ws_C_worth rm_C_worth (dC, dI) vwC (tyC kc) (wC ad kc nn) nsG σ [.ref (ad 6)] P := by
  refine k_enterP (cc := b_C_worth) (maxL := 1) (ret := (some .int)) (by decide) rfl (Nat.le_of_ble_eq_true rfl) ?_
  intro p e s m below meth c ls S hr hlocks hP hK hN hl
  generalize ([.ref (ad 6)] : List Value).toArray = args at S ⊢
  obtain ⟨hx, hb, hml, hown, hts⟩ := id S
  have hl : lv_has ls 1 [(0, .ref (ad 6))] := hl
  unfold wp_C_worth at h
  refine lv_aload_n hx hb dC_worth_0 rfl (lv_at hl 0 rfl) ?_
  refine k_get (ci := 6) (C := R_C) (T := T_C) (N := 10) hx hb hts (fun w q => gG_in (inG_C w q)) hown hK hP 6 rfl rfl 8 (by decide) (hts _ (gG_in mw_175)) rfl dC_worth_1 ?_
  exact k_iretP hx hb hr hlocks dC_worth_4 h
abbrev rm_C_waste : Room := { frames := 0, cells := 0, slots := 0, locals := 0 }
set_option maxHeartbeats 4000000 in
set_option maxRecDepth 100000 in
theorem c_C_waste (l : Launch) (dC : Nat → ClassId) (dI : Nat → Nat → Nat) (ad : Nat → Nat) (kc : Nat → ClassId) (nn : Nat → Nat) (σ : kM) {P : Int → Prop} (h : wp_C_waste nn σ P) : kMp l y_C_waste ws_C_waste rm_C_waste (dC, dI) vwC (tyC kc) (wC ad kc nn) nsG σ [.ref (ad 6)] P := by
  refine k_enterP (cc := b_C_waste) (maxL := 1) (ret := (some .int)) (by decide) rfl (Nat.le_of_ble_eq_true rfl) ?_
  intro p e s m below meth c ls S hr hlocks hP hK hN hl
  generalize ([.ref (ad 6)] : List Value).toArray = args at S ⊢
  obtain ⟨hx, hb, hml, hown, hts⟩ := id S
  have hl : lv_has ls 1 [(0, .ref (ad 6))] := hl
  unfold wp_C_waste at h
  refine lv_aload_n hx hb dC_waste_0 rfl (lv_at hl 0 rfl) ?_
  refine k_get (ci := 6) (C := R_C) (T := T_C) (N := 10) hx hb hts (fun w q => gG_in (inG_C w q)) hown hK hP 6 rfl rfl 9 (by decide) (hts _ (gG_in mw_176)) rfl dC_waste_1 ?_
  exact k_iretP hx hb hr hlocks dC_waste_4 h
abbrev rm_C_steps : Room := { frames := 0, cells := 0, slots := 0, locals := 0 }
set_option maxHeartbeats 4000000 in
set_option maxRecDepth 100000 in
theorem c_C_steps (l : Launch) (dC : Nat → ClassId) (dI : Nat → Nat → Nat) (ad : Nat → Nat) (kc : Nat → ClassId) (nn : Nat → Nat) (σ : kM) {P : Int → Prop} (h : wp_C_steps nn σ P) : kMp l y_C_steps ws_C_steps rm_C_steps (dC, dI) vwC (tyC kc) (wC ad kc nn) nsG σ [.ref (ad 6)] P := by
  refine k_enterP (cc := b_C_steps) (maxL := 1) (ret := (some .int)) (by decide) rfl (Nat.le_of_ble_eq_true rfl) ?_
  intro p e s m below meth c ls S hr hlocks hP hK hN hl
  generalize ([.ref (ad 6)] : List Value).toArray = args at S ⊢
  obtain ⟨hx, hb, hml, hown, hts⟩ := id S
  have hl : lv_has ls 1 [(0, .ref (ad 6))] := hl
  unfold wp_C_steps at h
  refine lv_aload_n hx hb dC_steps_0 rfl (lv_at hl 0 rfl) ?_
  refine k_get (ci := 6) (C := R_C) (T := T_C) (N := 10) hx hb hts (fun w q => gG_in (inG_C w q)) hown hK hP 6 rfl rfl 6 (by decide) (hts _ (gG_in mw_173)) rfl dC_steps_1 ?_
  exact k_iretP hx hb hr hlocks dC_steps_4 h
abbrev rm_P_clipped : Room := { frames := 6, cells := 0, slots := 0, locals := 82 }
set_option maxHeartbeats 4000000 in
set_option maxRecDepth 100000 in
theorem c_P_clipped (l : Launch) (dC : Nat → ClassId) (dI : Nat → Nat → Nat) (ad : Nat → Nat) (kc : Nat → ClassId) (nn : Nat → Nat) (σ : kM) (p0 : Int) {P : Int → kM → Prop} (h : wp_P_clipped nn σ p0 P (fun _ _ => False)) : kMi l y_P_clipped ws_P_clipped rm_P_clipped (dC, dI) vwC (tyC kc) (wC ad kc nn) nsG σ [.ref (ad 0), .int (iI p0)] P := by
  intro sz
  refine k_enter (cc := b_P_clipped) (maxL := 2) (ret := (some .int)) (by decide) rfl (Nat.le_of_ble_eq_true rfl) ?_
  intro p e s m below meth c ls S hr hlocks hsz hA hW hK hN hl
  generalize va_A ((wC ad kc nn) σ) sz = A at hA hW ⊢
  generalize ([.ref (ad 0), .int (iI p0)] : List Value).toArray = args at S ⊢
  obtain ⟨hx, hb, hml, hown, hts⟩ := id S
  have hl : lv_has ls 2 [(0, .ref (ad 0)), (1, .int (iI p0))] := hl
  unfold wp_P_clipped at h
  refine lv_aload_n hx hb dP_clipped_0 rfl (lv_at hl 0 rfl) ?_
  refine k_get (ci := 0) (C := R_P) (T := T_P) (N := 7) hx hb hts (fun w q => gG_in (inG_P w q)) hown hK hW.1 0 rfl rfl 5 (by decide) (hts _ (gG_in mw_220)) rfl dP_clipped_1 ?_
  obtain ⟨P1, g1, h⟩ := h
  refine kc_vp (As := []) (rest := []) (ci := 6) (q0 := 6) S (c_C_isDone l dC dI ad kc nn σ g1) (cwV 0 hts (gV mw_669 mw_670 mw_671 mw_8 k_C_isDone) rfl rfl rfl (by decide +kernel) ⟨Nat.le_of_ble_eq_true rfl, Nat.le_of_ble_eq_true rfl⟩) hK hN hW.1 rfl rfl rfl hl.1 rfl (Nat.le_of_ble_eq_true rfl) dP_clipped_4 ⟨Nat.zero_le _, Nat.zero_le _⟩ (fun r1 hp => ?_)
  have h := h r1 hp
  obtain ⟨q1, h⟩ := h
  obtain ⟨ht, hf⟩ := h
  refine ki_if_ne (tgt := 20) hx hb dP_clipped_7 (by decide) q1 (fun c1 => ?_) (fun c1 => ?_)
  · have h := ht c1
    refine lv_iload_n hx hb dP_clipped_20 rfl (lv_at hl 1 rfl) ?_
    refine lv_iconst (v := iI 0) hx hb dP_clipped_21 rfl ?_
    refine lv_iconst (v := iI 2) hx hb dP_clipped_22 rfl ?_
    obtain ⟨P2, g2, h⟩ := h
    refine kc_sp (As := [.int (iI p0), .int (iI 0), .int (iI 2)]) (rest := []) S (c_P_isWithin l dC dI (tyC kc) (wC ad kc nn) nn σ p0 0 2 g2) (cwS 3 hts (gS mw_425 mw_332 mw_1 k_P_isWithin) rfl rfl rfl (by decide +kernel) ⟨Nat.le_of_ble_eq_true rfl, Nat.le_of_ble_eq_true rfl⟩) hK hN hW.1 rfl hl.1 rfl (Nat.le_of_ble_eq_true rfl) dP_clipped_23 ⟨Nat.zero_le _, Nat.zero_le _⟩ (fun r2 hp => ?_)
    have h := h r2 hp
    obtain ⟨q2, h⟩ := h
    obtain ⟨ht, hf⟩ := h
    refine ki_if_ne (tgt := 39) hx hb dP_clipped_26 (by decide) q2 (fun c2 => ?_) (fun c2 => ?_)
    · have h := ht c2
      refine lv_iload_n hx hb dP_clipped_39 rfl (lv_at hl 1 rfl) ?_
      obtain ⟨q3, h⟩ := h
      obtain ⟨ht, hf⟩ := h
      refine ki_if_ne (tgt := 53) hx hb dP_clipped_40 (by decide) q3 (fun c3 => ?_) (fun c3 => ?_)
      · have h := ht c3
        refine lv_iload_n hx hb dP_clipped_53 rfl (lv_at hl 1 rfl) ?_
        refine lv_iconst (v := iI 1) hx hb dP_clipped_54 rfl ?_
        obtain ⟨q4, h⟩ := h
        obtain ⟨ht, hf⟩ := h
        refine ki_icmp_ne (tgt := 68) hx hb dP_clipped_55 (by decide) q4 (by constructor <;> decide) (fun c4 => ?_) (fun c4 => ?_)
        · have h := ht c4
          refine lv_aload_n hx hb dP_clipped_68 rfl (lv_at hl 0 rfl) ?_
          refine k_get (ci := 0) (C := R_P) (T := T_P) (N := 7) hx hb hts (fun w q => gG_in (inG_P w q)) hown hK hW.1 0 rfl rfl 5 (by decide) (hts _ (gG_in mw_220)) rfl dP_clipped_69 ?_
          refine kc_vp (As := []) (rest := []) (ci := 6) (q0 := 6) S (c_C_steps l dC dI ad kc nn σ (P := fun r => (σ 6 6) = r) rfl) (cwV 0 hts (gV mw_699 mw_700 mw_701 mw_8 k_C_steps) rfl rfl rfl (by decide +kernel) ⟨Nat.le_of_ble_eq_true rfl, Nat.le_of_ble_eq_true rfl⟩) hK hN hW.1 rfl rfl rfl hl.1 rfl (Nat.le_of_ble_eq_true rfl) dP_clipped_72 ⟨Nat.zero_le _, Nat.zero_le _⟩ (fun r3 hp => ?_)
          subst hp
          exact k_iret hx hb hr hlocks hW dP_clipped_75 h
        · have h := hf c4
          refine lv_aload_n hx hb dP_clipped_58 rfl (lv_at hl 0 rfl) ?_
          refine k_get (ci := 0) (C := R_P) (T := T_P) (N := 7) hx hb hts (fun w q => gG_in (inG_P w q)) hown hK hW.1 0 rfl rfl 5 (by decide) (hts _ (gG_in mw_220)) rfl dP_clipped_59 ?_
          refine kc_vp (As := []) (rest := []) (ci := 6) (q0 := 6) S (c_C_waste l dC dI ad kc nn σ (P := fun r => (σ 6 9) = r) rfl) (cwV 0 hts (gV mw_695 mw_696 mw_697 mw_8 k_C_waste) rfl rfl rfl (by decide +kernel) ⟨Nat.le_of_ble_eq_true rfl, Nat.le_of_ble_eq_true rfl⟩) hK hN hW.1 rfl rfl rfl hl.1 rfl (Nat.le_of_ble_eq_true rfl) dP_clipped_62 ⟨Nat.zero_le _, Nat.zero_le _⟩ (fun r4 hp => ?_)
          subst hp
          refine lv_goto (tgt := 75) hx hb dP_clipped_65 (by decide) ?_
          exact k_iret hx hb hr hlocks hW dP_clipped_75 h
      · have h := hf c3
        refine lv_aload_n hx hb dP_clipped_43 rfl (lv_at hl 0 rfl) ?_
        refine k_get (ci := 0) (C := R_P) (T := T_P) (N := 7) hx hb hts (fun w q => gG_in (inG_P w q)) hown hK hW.1 0 rfl rfl 5 (by decide) (hts _ (gG_in mw_220)) rfl dP_clipped_44 ?_
        refine kc_vp (As := []) (rest := []) (ci := 6) (q0 := 6) S (c_C_worth l dC dI ad kc nn σ (P := fun r => (σ 6 8) = r) rfl) (cwV 0 hts (gV mw_691 mw_692 mw_693 mw_8 k_C_worth) rfl rfl rfl (by decide +kernel) ⟨Nat.le_of_ble_eq_true rfl, Nat.le_of_ble_eq_true rfl⟩) hK hN hW.1 rfl rfl rfl hl.1 rfl (Nat.le_of_ble_eq_true rfl) dP_clipped_47 ⟨Nat.zero_le _, Nat.zero_le _⟩ (fun r5 hp => ?_)
        subst hp
        refine lv_goto (tgt := 75) hx hb dP_clipped_50 (by decide) ?_
        exact k_iret hx hb hr hlocks hW dP_clipped_75 h
    · have h := hf c2
      exact False.elim h
  · have h := hf c1
    exact False.elim h
abbrev rm_P_shrink : Room := { frames := 6, cells := 0, slots := 0, locals := 82 }
set_option maxHeartbeats 4000000 in
set_option maxRecDepth 100000 in
theorem c_P_shrink (l : Launch) (dC : Nat → ClassId) (dI : Nat → Nat → Nat) (ad : Nat → Nat) (kc : Nat → ClassId) (nn : Nat → Nat) (σ : kM) (p0 : Int) (p1 : Int) (p2 : Int) {P : Int → kM → Prop} (h : wp_P_shrink nn σ p0 p1 p2 P (fun _ _ => False)) : kMi l y_P_shrink ws_P_shrink rm_P_shrink (dC, dI) vwC (tyC kc) (wC ad kc nn) nsG σ [.ref (ad 0), .int (iI p0), .int (iI p1), .int (iI p2)] P := by
  intro sz
  refine k_enter (cc := b_P_shrink) (maxL := 4) (ret := (some .int)) (by decide) rfl (Nat.le_of_ble_eq_true rfl) ?_
  intro p e s m below meth c ls S hr hlocks hsz hA hW hK hN hl
  generalize va_A ((wC ad kc nn) σ) sz = A at hA hW ⊢
  generalize ([.ref (ad 0), .int (iI p0), .int (iI p1), .int (iI p2)] : List Value).toArray = args at S ⊢
  obtain ⟨hx, hb, hml, hown, hts⟩ := id S
  have hl : lv_has ls 4 [(0, .ref (ad 0)), (1, .int (iI p0)), (2, .int (iI p1)), (3, .int (iI p2))] := hl
  unfold wp_P_shrink at h
  refine lv_aload_n hx hb dP_shrink_0 rfl (lv_at hl 0 rfl) ?_
  refine k_get (ci := 0) (C := R_P) (T := T_P) (N := 7) hx hb hts (fun w q => gG_in (inG_P w q)) hown hK hW.1 0 rfl rfl 4 (by decide) (hts _ (gG_in mw_219)) rfl dP_shrink_1 ?_
  refine lv_iload_n hx hb dP_shrink_4 rfl (lv_at hl 1 rfl) ?_
  obtain ⟨P1, g1, h⟩ := h
  refine kc_vp (As := [.int (iI p0)]) (rest := []) (ci := 5) (q0 := 5) S (c_L_has l dC dI ad kc nn σ p0 g1) (cwV 1 hts (gV mw_583 mw_584 mw_585 mw_7 k_L_has) rfl rfl rfl (by decide +kernel) ⟨Nat.le_of_ble_eq_true rfl, Nat.le_of_ble_eq_true rfl⟩) hK hN hW.1 rfl rfl rfl hl.1 rfl (Nat.le_of_ble_eq_true rfl) dP_shrink_5 ⟨Nat.zero_le _, Nat.zero_le _⟩ (fun r1 hp => ?_)
  have h := h r1 hp
  obtain ⟨q1, h⟩ := h
  obtain ⟨ht, hf⟩ := h
  refine ki_if_ne (tgt := 21) hx hb dP_shrink_8 (by decide) q1 (fun c1 => ?_) (fun c1 => ?_)
  · have h := ht c1
    refine lv_iload_n hx hb dP_shrink_21 rfl (lv_at hl 3 rfl) ?_
    refine lv_iconst (v := iI 1) hx hb dP_shrink_22 rfl ?_
    refine lv_sipush (v := iI 1000) hx hb dP_shrink_23 (by decide) ?_
    obtain ⟨P2, g2, h⟩ := h
    refine kc_sp (As := [.int (iI p2), .int (iI 1), .int (iI 1000)]) (rest := []) S (c_P_isWithin l dC dI (tyC kc) (wC ad kc nn) nn σ p2 1 1000 g2) (cwS 3 hts (gS mw_425 mw_332 mw_1 k_P_isWithin) rfl rfl rfl (by decide +kernel) ⟨Nat.le_of_ble_eq_true rfl, Nat.le_of_ble_eq_true rfl⟩) hK hN hW.1 rfl hl.1 rfl (Nat.le_of_ble_eq_true rfl) dP_shrink_26 ⟨Nat.zero_le _, Nat.zero_le _⟩ (fun r2 hp => ?_)
    have h := h r2 hp
    obtain ⟨q2, h⟩ := h
    obtain ⟨ht, hf⟩ := h
    refine ki_if_eq (tgt := 41) hx hb dP_shrink_29 (by decide) q2 (fun c2 => ?_) (fun c2 => ?_)
    · have h := ht c2
      exact False.elim h
    · have h := hf c2
      refine lv_iload_n hx hb dP_shrink_32 rfl (lv_at hl 2 rfl) ?_
      refine lv_iconst (v := iI 0) hx hb dP_shrink_33 rfl ?_
      refine lv_iload_n hx hb dP_shrink_34 rfl (lv_at hl 3 rfl) ?_
      obtain ⟨P3, g3, h⟩ := h
      refine kc_sp (As := [.int (iI p1), .int (iI 0), .int (iI p2)]) (rest := []) S (c_P_isWithin l dC dI (tyC kc) (wC ad kc nn) nn σ p1 0 p2 g3) (cwS 3 hts (gS mw_425 mw_332 mw_1 k_P_isWithin) rfl rfl rfl (by decide +kernel) ⟨Nat.le_of_ble_eq_true rfl, Nat.le_of_ble_eq_true rfl⟩) hK hN hW.1 rfl hl.1 rfl (Nat.le_of_ble_eq_true rfl) dP_shrink_35 ⟨Nat.zero_le _, Nat.zero_le _⟩ (fun r3 hp => ?_)
      have h := h r3 hp
      obtain ⟨q3, h⟩ := h
      obtain ⟨ht, hf⟩ := h
      refine ki_if_ne (tgt := 51) hx hb dP_shrink_38 (by decide) q3 (fun c3 => ?_) (fun c3 => ?_)
      · have h := ht c3
        refine lv_aload_n hx hb dP_shrink_51 rfl (lv_at hl 0 rfl) ?_
        refine k_get (ci := 0) (C := R_P) (T := T_P) (N := 7) hx hb hts (fun w q => gG_in (inG_P w q)) hown hK hW.1 0 rfl rfl 4 (by decide) (hts _ (gG_in mw_219)) rfl dP_shrink_52 ?_
        refine lv_iload_n hx hb dP_shrink_55 rfl (lv_at hl 1 rfl) ?_
        obtain ⟨P4, g4, h⟩ := h
        refine kc_vp (As := [.int (iI p0)]) (rest := []) (ci := 5) (q0 := 5) S (c_L_width l dC dI ad kc nn σ p0 g4) (cwV 1 hts (gV mw_712 mw_642 mw_643 mw_7 k_L_width) rfl rfl rfl (by decide +kernel) ⟨Nat.le_of_ble_eq_true rfl, Nat.le_of_ble_eq_true rfl⟩) hK hN hW.1 rfl rfl rfl hl.1 rfl (Nat.le_of_ble_eq_true rfl) dP_shrink_56 ⟨Nat.zero_le _, Nat.zero_le _⟩ (fun r4 hp => ?_)
        have h := h r4 hp
        refine lv_iload_n hx hb dP_shrink_59 rfl (lv_at hl 2 rfl) ?_
        refine ki_mul hx hb dP_shrink_60 ?_
        refine lv_iload_n hx hb dP_shrink_61 rfl (lv_at hl 3 rfl) ?_
        obtain ⟨q4, h⟩ := h
        refine ki_div hx hb dP_shrink_62 q4 ?_
        exact k_iret hx hb hr hlocks hW dP_shrink_63 h
      · have h := hf c3
        exact False.elim h
  · have h := hf c1
    exact False.elim h
abbrev rm_K_isBelowLast : Room := { frames := 0, cells := 0, slots := 0, locals := 0 }
set_option maxHeartbeats 4000000 in
set_option maxRecDepth 100000 in
theorem c_K_isBelowLast (l : Launch) (dC : Nat → ClassId) (dI : Nat → Nat → Nat) (ad : Nat → Nat) (kc : Nat → ClassId) (nn : Nat → Nat) (σ : kM) (p0 : Int) {P : Int → Prop} (h : wp_K_isBelowLast nn σ p0 P) : kMp l y_K_isBelowLast ws_K_isBelowLast rm_K_isBelowLast (dC, dI) vwC (tyC kc) (wC ad kc nn) nsG σ [.ref (ad 7), .int (iI p0)] P := by
  refine k_enterP (cc := b_K_isBelowLast) (maxL := 2) (ret := (some .boolean)) (by decide) rfl (Nat.le_of_ble_eq_true rfl) ?_
  intro p e s m below meth c ls S hr hlocks hP hK hN hl
  generalize ([.ref (ad 7), .int (iI p0)] : List Value).toArray = args at S ⊢
  obtain ⟨hx, hb, hml, hown, hts⟩ := id S
  have hl : lv_has ls 2 [(0, .ref (ad 7)), (1, .int (iI p0))] := hl
  unfold wp_K_isBelowLast at h
  refine lv_aload_n hx hb dK_isBelowLast_0 rfl (lv_at hl 0 rfl) ?_
  refine k_get (ci := 7) (C := R_K) (T := T_K) (N := 3) hx hb hts (fun w q => gG_in (inG_K w q)) hown hK hP 7 rfl rfl 2 (by decide) (hts _ (gG_in mw_207)) rfl dK_isBelowLast_1 ?_
  obtain ⟨q1, h⟩ := h
  obtain ⟨ht, hf⟩ := h
  refine ki_if_eq (tgt := 22) hx hb dK_isBelowLast_4 (by decide) q1 (fun c1 => ?_) (fun c1 => ?_)
  · have h := ht c1
    refine lv_iconst (v := iI 1) hx hb dK_isBelowLast_22 rfl ?_
    refine lv_goto (tgt := 27) hx hb dK_isBelowLast_23 (by decide) ?_
    exact k_zretP hx hb hr hlocks dK_isBelowLast_27 (by decide) h
  · have h := hf c1
    refine lv_iload_n hx hb dK_isBelowLast_7 rfl (lv_at hl 1 rfl) ?_
    refine lv_aload_n hx hb dK_isBelowLast_8 rfl (lv_at hl 0 rfl) ?_
    refine k_get (ci := 7) (C := R_K) (T := T_K) (N := 3) hx hb hts (fun w q => gG_in (inG_K w q)) hown hK hP 7 rfl rfl 0 (by decide) (hts _ (gG_in mw_205)) rfl dK_isBelowLast_9 ?_
    refine lv_aload_n hx hb dK_isBelowLast_12 rfl (lv_at hl 0 rfl) ?_
    refine k_get (ci := 7) (C := R_K) (T := T_K) (N := 3) hx hb hts (fun w q => gG_in (inG_K w q)) hown hK hP 7 rfl rfl 2 (by decide) (hts _ (gG_in mw_207)) rfl dK_isBelowLast_13 ?_
    refine lv_iconst (v := iI 1) hx hb dK_isBelowLast_16 rfl ?_
    refine ki_sub hx hb dK_isBelowLast_17 ?_
    obtain ⟨q2, h⟩ := h
    refine k_iald hx hb hK hP 24 16 (σ 24) rfl rfl q2 dK_isBelowLast_18 ?_
    obtain ⟨q3, h⟩ := h
    obtain ⟨q4, h⟩ := h
    obtain ⟨ht, hf⟩ := h
    refine ki_icmp_ge (tgt := 26) hx hb dK_isBelowLast_19 (by decide) q3 q4 (fun c2 => ?_) (fun c2 => ?_)
    · have h := ht c2
      refine lv_iconst (v := iI 0) hx hb dK_isBelowLast_26 rfl ?_
      exact k_zretP hx hb hr hlocks dK_isBelowLast_27 (by decide) h
    · have h := hf c2
      refine lv_iconst (v := iI 1) hx hb dK_isBelowLast_22 rfl ?_
      refine lv_goto (tgt := 27) hx hb dK_isBelowLast_23 (by decide) ?_
      exact k_zretP hx hb hr hlocks dK_isBelowLast_27 (by decide) h
abbrev rm_K_add : Room := { frames := 0, cells := 0, slots := 0, locals := 0 }
set_option maxHeartbeats 4000000 in
set_option maxRecDepth 100000 in
theorem c_K_add (l : Launch) (dC : Nat → ClassId) (dI : Nat → Nat → Nat) (ad : Nat → Nat) (kc : Nat → ClassId) (nn : Nat → Nat) (σ : kM) (p0 : Int) (p1 : Int) {P : Int → kM → Prop} (h : wp_K_add nn σ p0 p1 P) : kMi l y_K_add ws_K_add rm_K_add (dC, dI) vwC (tyC kc) (wC ad kc nn) nsG σ [.ref (ad 7), .int (iI p0), .int (iI p1)] P := by
  intro sz
  refine k_enter (cc := b_K_add) (maxL := 3) (ret := (some .boolean)) (by decide) rfl (Nat.le_of_ble_eq_true rfl) ?_
  intro p e s m below meth c ls S hr hlocks hsz hA hW hK hN hl
  generalize va_A ((wC ad kc nn) σ) sz = A at hA hW ⊢
  generalize ([.ref (ad 7), .int (iI p0), .int (iI p1)] : List Value).toArray = args at S ⊢
  obtain ⟨hx, hb, hml, hown, hts⟩ := id S
  have hl : lv_has ls 3 [(0, .ref (ad 7)), (1, .int (iI p0)), (2, .int (iI p1))] := hl
  unfold wp_K_add at h
  refine lv_aload_n hx hb dK_add_0 rfl (lv_at hl 0 rfl) ?_
  refine k_get (ci := 7) (C := R_K) (T := T_K) (N := 3) hx hb hts (fun w q => gG_in (inG_K w q)) hown hK hW.1 7 rfl rfl 2 (by decide) (hts _ (gG_in mw_207)) rfl dK_add_1 ?_
  refine lv_bipush (v := iI 8) hx hb dK_add_4 (by decide) ?_
  obtain ⟨q1, h⟩ := h
  obtain ⟨ht, hf⟩ := h
  refine ki_icmp_lt (tgt := 11) hx hb dK_add_6 (by decide) q1 (by constructor <;> decide) (fun c1 => ?_) (fun c1 => ?_)
  · have h := ht c1
    refine lv_aload_n hx hb dK_add_11 rfl (lv_at hl 0 rfl) ?_
    refine k_get (ci := 7) (C := R_K) (T := T_K) (N := 3) hx hb hts (fun w q => gG_in (inG_K w q)) hown hK hW.1 7 rfl rfl 0 (by decide) (hts _ (gG_in mw_205)) rfl dK_add_12 ?_
    refine lv_aload_n hx hb dK_add_15 rfl (lv_at hl 0 rfl) ?_
    refine k_get (ci := 7) (C := R_K) (T := T_K) (N := 3) hx hb hts (fun w q => gG_in (inG_K w q)) hown hK hW.1 7 rfl rfl 2 (by decide) (hts _ (gG_in mw_207)) rfl dK_add_16 ?_
    refine lv_iload_n hx hb dK_add_19 rfl (lv_at hl 1 rfl) ?_
    obtain ⟨q2, h⟩ := h
    obtain ⟨s1, es1⟩ : ∃ z : kM, z = va_up σ 24 (va_up (σ 24) (σ 7 2).toNat p0) := ⟨_, rfl⟩
    refine k_iast (ws' := wC ad kc nn s1) hx hb hK hW 24 16 (σ 24) rfl rfl q2 (by rw [es1]; exact wC_a24 ..) dK_add_20 (fun H locs hW => ?_)
    have h := h s1 es1
    refine lv_aload_n hx hb dK_add_21 rfl (lv_at hl 0 rfl) ?_
    refine k_get (ci := 7) (C := R_K) (T := T_K) (N := 3) hx hb hts (fun w q => gG_in (inG_K w q)) hown hK hW.1 7 rfl rfl 1 (by decide) (hts _ (gG_in mw_206)) rfl dK_add_22 ?_
    refine lv_aload_n hx hb dK_add_25 rfl (lv_at hl 0 rfl) ?_
    refine k_get (ci := 7) (C := R_K) (T := T_K) (N := 3) hx hb hts (fun w q => gG_in (inG_K w q)) hown hK hW.1 7 rfl rfl 2 (by decide) (hts _ (gG_in mw_207)) rfl dK_add_26 ?_
    refine lv_iload_n hx hb dK_add_29 rfl (lv_at hl 2 rfl) ?_
    obtain ⟨q3, h⟩ := h
    obtain ⟨s2, es2⟩ : ∃ z : kM, z = va_up s1 25 (va_up (s1 25) (s1 7 2).toNat p1) := ⟨_, rfl⟩
    refine k_iast (ws' := wC ad kc nn s2) hx hb hK hW 25 17 (s1 25) rfl rfl q3 (by rw [es2]; exact wC_a25 ..) dK_add_30 (fun H locs hW => ?_)
    have h := h s2 es2
    refine lv_aload_n hx hb dK_add_31 rfl (lv_at hl 0 rfl) ?_
    refine lv_dup hx hb dK_add_32 rfl ?_
    refine k_get (ci := 7) (C := R_K) (T := T_K) (N := 3) hx hb hts (fun w q => gG_in (inG_K w q)) hown hK hW.1 7 rfl rfl 2 (by decide) (hts _ (gG_in mw_207)) rfl dK_add_33 ?_
    refine lv_iconst (v := iI 1) hx hb dK_add_36 rfl ?_
    refine ki_add hx hb dK_add_37 ?_
    obtain ⟨s3, es3⟩ : ∃ z : kM, z = va_up s2 7 (va_up (s2 7) 2 ((s2 7 2) + 1)) := ⟨_, rfl⟩
    refine k_put (ty := .int) (ws' := wC ad kc nn s3) (ci := 7) (C := R_K) (T := T_K) (N := 3) hx hb hts (fun w q => gG_in (inG_K w q)) ty_K tk_K nm_K hown hK hW 7 rfl rfl 2 (by decide) (hts _ (gG_in mw_207)) rfl (by decide +kernel) rfl rfl (Nat.le_of_ble_eq_true rfl) (by rw [es3]; exact wC_p7_2 ..) dK_add_38 (fun H locs hW => ?_)
    have h := h s3 es3
    refine lv_iconst (v := iI 1) hx hb dK_add_41 rfl ?_
    exact k_zret hx hb hr hlocks hW dK_add_42 (by decide) h
  · have h := hf c1
    refine lv_iconst (v := iI 0) hx hb dK_add_9 rfl ?_
    exact k_zret hx hb hr hlocks hW dK_add_10 (by decide) h
abbrev rm_P_row : Room := { frames := 6, cells := 0, slots := 0, locals := 82 }
set_option maxHeartbeats 4000000 in
set_option maxRecDepth 100000 in
theorem c_P_row (l : Launch) (dC : Nat → ClassId) (dI : Nat → Nat → Nat) (ad : Nat → Nat) (kc : Nat → ClassId) (nn : Nat → Nat) (σ : kM) (p0 : Int) (p1 : Int) {P : Int → kM → Prop} (h : wp_P_row nn σ p0 p1 P (fun _ _ => False)) : kMi l y_P_row ws_P_row rm_P_row (dC, dI) vwC (tyC kc) (wC ad kc nn) nsG σ [.ref (ad 0), .int (iI p0), .int (iI p1)] P := by
  intro sz
  refine k_enter (cc := b_P_row) (maxL := 3) (ret := (some .boolean)) (by decide) rfl (Nat.le_of_ble_eq_true rfl) ?_
  intro p e s m below meth c ls S hr hlocks hsz hA hW hK hN hl
  generalize va_A ((wC ad kc nn) σ) sz = A at hA hW ⊢
  generalize ([.ref (ad 0), .int (iI p0), .int (iI p1)] : List Value).toArray = args at S ⊢
  obtain ⟨hx, hb, hml, hown, hts⟩ := id S
  have hl : lv_has ls 3 [(0, .ref (ad 0)), (1, .int (iI p0)), (2, .int (iI p1))] := hl
  unfold wp_P_row at h
  refine lv_iload_n hx hb dP_row_0 rfl (lv_at hl 1 rfl) ?_
  refine lv_iconst (v := iI 0) hx hb dP_row_1 rfl ?_
  refine lv_sipush (v := iI 1000) hx hb dP_row_2 (by decide) ?_
  obtain ⟨P1, g1, h⟩ := h
  refine kc_sp (As := [.int (iI p0), .int (iI 0), .int (iI 1000)]) (rest := []) S (c_P_isWithin l dC dI (tyC kc) (wC ad kc nn) nn σ p0 0 1000 g1) (cwS 3 hts (gS mw_425 mw_332 mw_1 k_P_isWithin) rfl rfl rfl (by decide +kernel) ⟨Nat.le_of_ble_eq_true rfl, Nat.le_of_ble_eq_true rfl⟩) hK hN hW.1 rfl hl.1 rfl (Nat.le_of_ble_eq_true rfl) dP_row_5 ⟨Nat.zero_le _, Nat.zero_le _⟩ (fun r1 hp => ?_)
  have h := h r1 hp
  obtain ⟨q1, h⟩ := h
  obtain ⟨ht, hf⟩ := h
  refine ki_if_eq (tgt := 33) hx hb dP_row_8 (by decide) q1 (fun c1 => ?_) (fun c1 => ?_)
  · have h := ht c1
    exact False.elim h
  · have h := hf c1
    refine lv_aload_n hx hb dP_row_11 rfl (lv_at hl 0 rfl) ?_
    refine k_get (ci := 0) (C := R_P) (T := T_P) (N := 7) hx hb hts (fun w q => gG_in (inG_P w q)) hown hK hW.1 0 rfl rfl 6 (by decide) (hts _ (gG_in mw_221)) rfl dP_row_12 ?_
    refine lv_iload_n hx hb dP_row_15 rfl (lv_at hl 1 rfl) ?_
    obtain ⟨P2, g2, h⟩ := h
    refine kc_vp (As := [.int (iI p0)]) (rest := []) (ci := 7) (q0 := 7) S (c_K_isBelowLast l dC dI ad kc nn σ p0 g2) (cwV 1 hts (gV mw_720 mw_721 mw_722 mw_9 k_K_isBelowLast) rfl rfl rfl (by decide +kernel) ⟨Nat.le_of_ble_eq_true rfl, Nat.le_of_ble_eq_true rfl⟩) hK hN hW.1 rfl rfl rfl hl.1 rfl (Nat.le_of_ble_eq_true rfl) dP_row_16 ⟨Nat.zero_le _, Nat.zero_le _⟩ (fun r2 hp => ?_)
    have h := h r2 hp
    obtain ⟨q2, h⟩ := h
    obtain ⟨ht, hf⟩ := h
    refine ki_if_eq (tgt := 33) hx hb dP_row_19 (by decide) q2 (fun c2 => ?_) (fun c2 => ?_)
    · have h := ht c2
      exact False.elim h
    · have h := hf c2
      refine lv_iload_n hx hb dP_row_22 rfl (lv_at hl 2 rfl) ?_
      refine lv_bipush (v := iI (-100)) hx hb dP_row_23 (by decide) ?_
      refine lv_bipush (v := iI 100) hx hb dP_row_25 (by decide) ?_
      obtain ⟨P3, g3, h⟩ := h
      refine kc_sp (As := [.int (iI p1), .int (iI (-100)), .int (iI 100)]) (rest := []) S (c_P_isWithin l dC dI (tyC kc) (wC ad kc nn) nn σ p1 (-100) 100 g3) (cwS 3 hts (gS mw_425 mw_332 mw_1 k_P_isWithin) rfl rfl rfl (by decide +kernel) ⟨Nat.le_of_ble_eq_true rfl, Nat.le_of_ble_eq_true rfl⟩) hK hN hW.1 rfl hl.1 rfl (Nat.le_of_ble_eq_true rfl) dP_row_27 ⟨Nat.zero_le _, Nat.zero_le _⟩ (fun r3 hp => ?_)
      have h := h r3 hp
      obtain ⟨q3, h⟩ := h
      obtain ⟨ht, hf⟩ := h
      refine ki_if_ne (tgt := 43) hx hb dP_row_30 (by decide) q3 (fun c3 => ?_) (fun c3 => ?_)
      · have h := ht c3
        refine lv_aload_n hx hb dP_row_43 rfl (lv_at hl 0 rfl) ?_
        refine k_get (ci := 0) (C := R_P) (T := T_P) (N := 7) hx hb hts (fun w q => gG_in (inG_P w q)) hown hK hW.1 0 rfl rfl 6 (by decide) (hts _ (gG_in mw_221)) rfl dP_row_44 ?_
        refine lv_iload_n hx hb dP_row_47 rfl (lv_at hl 1 rfl) ?_
        refine lv_iload_n hx hb dP_row_48 rfl (lv_at hl 2 rfl) ?_
        obtain ⟨P4, g4, h⟩ := h
        refine kc_vi (As := [.int (iI p0), .int (iI p1)]) (rest := []) (ci := 7) (q0 := 7) S (c_K_add l dC dI ad kc nn σ p0 p1 g4) (cwV 2 hts (gV mw_725 mw_726 mw_727 mw_9 k_K_add) rfl rfl rfl (by decide +kernel) ⟨Nat.le_of_ble_eq_true rfl, Nat.le_of_ble_eq_true rfl⟩) hK hN hA hW (fun _ => rfl) rfl rfl rfl hl.1 rfl (Nat.le_of_ble_eq_true rfl) dP_row_49 ⟨Nat.zero_le _, Nat.zero_le _⟩ (fun r4 s1 H locs hp hW => ?_)
        have h := h r4 s1 hp
        exact k_zret hx hb hr hlocks hW dP_row_52 h.1 h.2
      · have h := hf c3
        exact False.elim h
