abbrev rm_M_thrown : Room := { frames := 0, cells := 0, slots := 0, locals := 0 }
set_option maxHeartbeats 4000000 in
set_option maxRecDepth 100000 in
theorem c_M_thrown (l : Launch) (dC : Nat → ClassId) (dI : Nat → Nat → Nat) (ad : Nat → Nat) (kc : Nat → ClassId) (nn : Nat → Nat) (σ : kM) {P : Int → Prop} (h : wp_M_thrown nn σ P) : kMp l y_M_thrown ws_M_thrown rm_M_thrown (dC, dI) vwC (tyC kc) (wC ad kc nn) nsG σ [.ref (ad 27)] P := by
  refine k_enterP (cc := b_M_thrown) (maxL := 1) (ret := (some .int)) (by decide) rfl (Nat.le_of_ble_eq_true rfl) ?_
  intro p e s m below meth c ls S hr hlocks hP hK hN hl
  generalize ([.ref (ad 27)] : List Value).toArray = args at S ⊢
  obtain ⟨hx, hb, hml, hown, hts⟩ := id S
  have hl : lv_has ls 1 [(0, .ref (ad 27))] := hl
  unfold wp_M_thrown at h
  refine lv_aload_n hx hb dM_thrown_0 rfl (lv_at hl 0 rfl) ?_
  refine k_get (ci := 8) (C := R_M) (T := T_M) (N := 32) hx hb hts (fun w q => gG_in (inG_M w q)) hown hK hP 27 rfl rfl 0 (by decide) (hts _ (gG_in mw_747)) rfl dM_thrown_1 ?_
  exact k_iretP hx hb hr hlocks dM_thrown_4 h
abbrev rm_M_isIn : Room := { frames := 0, cells := 0, slots := 0, locals := 0 }
set_option maxHeartbeats 4000000 in
set_option maxRecDepth 100000 in
theorem c_M_isIn (l : Launch) (dC : Nat → ClassId) (dI : Nat → Nat → Nat) (tys : List (ClassId × FieldType)) (w : kM → va_W) (nn : Nat → Nat) (σ : kM) (p0 : Int) (p1 : Int) (p2 : Int) {P : Int → Prop} (h : wp_M_isIn nn σ p0 p1 p2 P) : kMp l y_M_isIn ws_M_isIn rm_M_isIn (dC, dI) vwC tys w nsG σ [.int (iI p0), .int (iI p1), .int (iI p2)] P := by
  refine k_enterP (cc := b_M_isIn) (maxL := 3) (ret := (some .boolean)) (by decide) rfl (Nat.le_of_ble_eq_true rfl) ?_
  intro p e s m below meth c ls S hr hlocks hP hK hN hl
  generalize ([.int (iI p0), .int (iI p1), .int (iI p2)] : List Value).toArray = args at S ⊢
  obtain ⟨hx, hb, hml, hown, hts⟩ := id S
  have hl : lv_has ls 3 [(0, .int (iI p0)), (1, .int (iI p1)), (2, .int (iI p2))] := hl
  unfold wp_M_isIn at h
  refine lv_iload_n hx hb dM_isIn_0 rfl (lv_at hl 0 rfl) ?_
  refine lv_iload_n hx hb dM_isIn_1 rfl (lv_at hl 1 rfl) ?_
  obtain ⟨q1, h⟩ := h
  obtain ⟨q2, h⟩ := h
  obtain ⟨ht, hf⟩ := h
  refine ki_icmp_lt (tgt := 14) hx hb dM_isIn_2 (by decide) q1 q2 (fun c1 => ?_) (fun c1 => ?_)
  · have h := ht c1
    refine lv_iconst (v := iI 0) hx hb dM_isIn_14 rfl ?_
    exact k_zretP hx hb hr hlocks dM_isIn_15 (by decide) h
  · have h := hf c1
    refine lv_iload_n hx hb dM_isIn_5 rfl (lv_at hl 0 rfl) ?_
    refine lv_iload_n hx hb dM_isIn_6 rfl (lv_at hl 2 rfl) ?_
    obtain ⟨q3, h⟩ := h
    obtain ⟨q4, h⟩ := h
    obtain ⟨ht, hf⟩ := h
    refine ki_icmp_gt (tgt := 14) hx hb dM_isIn_7 (by decide) q3 q4 (fun c2 => ?_) (fun c2 => ?_)
    · have h := ht c2
      refine lv_iconst (v := iI 0) hx hb dM_isIn_14 rfl ?_
      exact k_zretP hx hb hr hlocks dM_isIn_15 (by decide) h
    · have h := hf c2
      refine lv_iconst (v := iI 1) hx hb dM_isIn_10 rfl ?_
      refine lv_goto (tgt := 15) hx hb dM_isIn_11 (by decide) ?_
      exact k_zretP hx hb hr hlocks dM_isIn_15 (by decide) h
abbrev rm_M_cell : Room := { frames := 1, cells := 0, slots := 0, locals := 22 }
set_option maxHeartbeats 4000000 in
set_option maxRecDepth 100000 in
theorem c_M_cell (l : Launch) (dC : Nat → ClassId) (dI : Nat → Nat → Nat) (ad : Nat → Nat) (kc : Nat → ClassId) (nn : Nat → Nat) (σ : kM) (p0 : Int) (p1 : Int) (p2 : Int) (p3 : Int) {P : Int → kM → Prop} (h : wp_M_cell nn σ p0 p1 p2 p3 P) : kMi l y_M_cell ws_M_cell rm_M_cell (dC, dI) vwC (tyC kc) (wC ad kc nn) nsG σ [.ref (ad 27), .int (iI p0), .int (iI p1), .int (iI p2), .int (iI p3)] P := by
  intro sz
  refine k_enter (cc := b_M_cell) (maxL := 7) (ret := (some .boolean)) (by decide) rfl (Nat.le_of_ble_eq_true rfl) ?_
  intro p e s m below meth c ls S hr hlocks hsz hA hW hK hN hl
  generalize va_A ((wC ad kc nn) σ) sz = A at hA hW ⊢
  generalize ([.ref (ad 27), .int (iI p0), .int (iI p1), .int (iI p2), .int (iI p3)] : List Value).toArray = args at S ⊢
  obtain ⟨hx, hb, hml, hown, hts⟩ := id S
  have hl : lv_has ls 7 [(0, .ref (ad 27)), (1, .int (iI p0)), (2, .int (iI p1)), (3, .int (iI p2)), (4, .int (iI p3))] := hl
  unfold wp_M_cell at h
  refine lv_aload_n hx hb dM_cell_0 rfl (lv_at hl 0 rfl) ?_
  refine lv_iload_n hx hb dM_cell_1 rfl (lv_at hl 1 rfl) ?_
  refine lv_iconst (v := iI 0) hx hb dM_cell_2 rfl ?_
  refine lv_aload_n hx hb dM_cell_3 rfl (lv_at hl 0 rfl) ?_
  refine k_get (ci := 8) (C := R_M) (T := T_M) (N := 32) hx hb hts (fun w q => gG_in (inG_M w q)) hown hK hW.1 27 rfl rfl 1 (by decide) (hts _ (gG_in mw_748)) rfl dM_cell_4 ?_
  refine lv_iconst (v := iI 1) hx hb dM_cell_7 rfl ?_
  refine ki_sub hx hb dM_cell_8 ?_
  obtain ⟨P1, g1, h⟩ := h
  refine kc_sp (As := [.int (iI p0), .int (iI 0), .int (iI ((σ 27 1) - 1))]) (rest := [.ref (ad 27)]) S (c_M_isIn l dC dI (tyC kc) (wC ad kc nn) nn σ p0 0 ((σ 27 1) - 1) g1) (cwS 3 hts (gS mw_852 mw_853 mw_10 k_M_isIn) rfl rfl rfl (by decide +kernel) ⟨Nat.le_of_ble_eq_true rfl, Nat.le_of_ble_eq_true rfl⟩) hK hN hW.1 rfl hl.1 rfl (Nat.le_of_ble_eq_true rfl) dM_cell_9 ⟨Nat.zero_le _, Nat.zero_le _⟩ (fun r1 hp => ?_)
  have h := h r1 hp
  obtain ⟨q1, h⟩ := h
  have jW4 : ∀ (v1 : Int) (H : Heap) (locs : List Loc) (ls : Array Slot), kW (dC, dI) vwC A s.heap (wC ad kc nn σ) H locs → lv_has ls 7 [(0, .ref (ad 27)), (1, .int (iI p0)), (2, .int (iI p1)), (3, .int (iI p2)), (4, .int (iI p3))] → jn_M_cell_48 nn p0 p1 p2 p3 σ P v1 → W p l e (headSpec ws_M_cell rm_M_cell).room s m args below meth c H locs 0 0 (MQ below (kQi (dC, dI) vwC (wC ad kc nn) P A) args s 0 0 A) (F0 m 48 ls [.int (iI v1), .ref (ad 27)]) := by
    intro v1 H locs ls hW hl h
    unfold jn_M_cell_48 at h
    obtain ⟨s1, es1⟩ : ∃ z : kM, z = va_up σ 27 (va_up (σ 27) 0 v1) := ⟨_, rfl⟩
    refine k_put (ty := .int) (ws' := wC ad kc nn s1) (ci := 8) (C := R_M) (T := T_M) (N := 32) hx hb hts (fun w q => gG_in (inG_M w q)) ty_M tk_M nm_M hown hK hW 27 rfl rfl 0 (by decide) (hts _ (gG_in mw_747)) rfl (by decide +kernel) rfl rfl (Nat.le_of_ble_eq_true rfl) (by rw [es1]; exact wC_p27_0 ..) dM_cell_48 (fun H locs hW => ?_)
    have h := h s1 es1
    refine lv_aload_n hx hb dM_cell_51 rfl (lv_at hl 0 rfl) ?_
    refine k_get (ci := 8) (C := R_M) (T := T_M) (N := 32) hx hb hts (fun w q => gG_in (inG_M w q)) hown hK hW.1 27 rfl rfl 0 (by decide) (hts _ (gG_in mw_747)) rfl dM_cell_52 ?_
    obtain ⟨q2, h⟩ := h
    obtain ⟨ht, hf⟩ := h
    refine ki_if_le (tgt := 60) hx hb dM_cell_55 (by decide) q2 (fun c1 => ?_) (fun c1 => ?_)
    · have h := ht c1
      refine lv_bipush (v := iI 100) hx hb dM_cell_60 (by decide) ?_
      refine lv_iload_n hx hb dM_cell_62 rfl (lv_at hl 1 rfl) ?_
      refine ki_mul hx hb dM_cell_63 ?_
      refine lv_bipush (v := iI 10) hx hb dM_cell_64 (by decide) ?_
      refine lv_iload_n hx hb dM_cell_66 rfl (lv_at hl 3 rfl) ?_
      refine ki_mul hx hb dM_cell_67 ?_
      refine ki_add hx hb dM_cell_68 ?_
      refine lv_iload_n hx hb dM_cell_69 rfl (lv_at hl 2 rfl) ?_
      refine ki_add hx hb dM_cell_70 ?_
      refine ki_nm (fun v2 ev2 => ?_)
      have h := h v2 ev2
      refine lv_istore (lv' := [(5, .int (iI v2)), (0, .ref (ad 27)), (1, .int (iI p0)), (2, .int (iI p1)), (3, .int (iI p2)), (4, .int (iI p3))]) hx hb dM_cell_71 hl (by decide) rfl (fun ls hl => ?_)
      refine lv_aload_n hx hb dM_cell_73 rfl (lv_at hl 1 rfl) ?_
      refine k_get (ci := 8) (C := R_M) (T := T_M) (N := 32) hx hb hts (fun w q => gG_in (inG_M w q)) hown hK hW.1 27 rfl rfl 4 (by decide) (hts _ (gG_in mw_751)) rfl dM_cell_74 ?_
      refine lv_iload hx hb dM_cell_77 (lv_at hl 0 rfl) ?_
      obtain ⟨q3, h⟩ := h
      refine k_zald hx hb hK hW.1 28 19 (s1 28) rfl rfl q3 dM_cell_79 ?_
      refine lv_iload hx hb dM_cell_80 (lv_at hl 5 rfl) ?_
      obtain ⟨q4, h⟩ := h
      obtain ⟨q5, h⟩ := h
      have jW3 : ∀ (v3 : Int) (H : Heap) (locs : List Loc) (ls : Array Slot), kW (dC, dI) vwC A s.heap (wC ad kc nn s1) H locs → lv_has ls 7 [(5, .int (iI v2)), (0, .ref (ad 27)), (4, .int (iI p3))] → jn_M_cell_90 nn p3 P s1 v2 v3 → W p l e (headSpec ws_M_cell rm_M_cell).room s m args below meth c H locs 0 0 (MQ below (kQi (dC, dI) vwC (wC ad kc nn) P A) args s 0 0 A) (F0 m 90 ls [.int (iI v3)]) := by
        intro v3 H locs ls hW hl h
        unfold jn_M_cell_90 at h
        refine lv_istore (lv' := [(6, .int (iI v3)), (5, .int (iI v2)), (0, .ref (ad 27)), (4, .int (iI p3))]) hx hb dM_cell_90 hl (by decide) rfl (fun ls hl => ?_)
        refine lv_aload_n hx hb dM_cell_92 rfl (lv_at hl 2 rfl) ?_
        refine k_get (ci := 8) (C := R_M) (T := T_M) (N := 32) hx hb hts (fun w q => gG_in (inG_M w q)) hown hK hW.1 27 rfl rfl 4 (by decide) (hts _ (gG_in mw_751)) rfl dM_cell_93 ?_
        refine lv_iload hx hb dM_cell_96 (lv_at hl 1 rfl) ?_
        refine lv_iload hx hb dM_cell_98 (lv_at hl 3 rfl) ?_
        obtain ⟨q6, h⟩ := h
        obtain ⟨q7, h⟩ := h
        obtain ⟨s2, es2⟩ : ∃ z : kM, z = va_up s1 28 (va_up (s1 28) v2.toNat p3) := ⟨_, rfl⟩
        refine k_zast (ws' := wC ad kc nn s2) hx hb hK hW 28 19 (s1 28) rfl rfl q6 q7 (by rw [es2]; exact wC_a28 ..) dM_cell_100 (fun H locs hW => ?_)
        have h := h s2 es2
        refine lv_aload_n hx hb dM_cell_101 rfl (lv_at hl 2 rfl) ?_
        refine lv_aload_n hx hb dM_cell_102 rfl (lv_at hl 2 rfl) ?_
        refine k_get (ci := 8) (C := R_M) (T := T_M) (N := 32) hx hb hts (fun w q => gG_in (inG_M w q)) hown hK hW.1 27 rfl rfl 6 (by decide) (hts _ (gG_in mw_753)) rfl dM_cell_103 ?_
        obtain ⟨q8, h⟩ := h
        have jW2 : ∀ (v4 : Int) (H : Heap) (locs : List Loc) (ls : Array Slot), kW (dC, dI) vwC A s.heap (wC ad kc nn s2) H locs → lv_has ls 7 [(6, .int (iI v3)), (0, .ref (ad 27))] → jn_M_cell_119 nn P v3 s2 v4 → W p l e (headSpec ws_M_cell rm_M_cell).room s m args below meth c H locs 0 0 (MQ below (kQi (dC, dI) vwC (wC ad kc nn) P A) args s 0 0 A) (F0 m 119 ls [.int (iI v4), .ref (ad 27)]) := by
          intro v4 H locs ls hW hl h
          unfold jn_M_cell_119 at h
          obtain ⟨q9, h⟩ := h
          obtain ⟨s3, es3⟩ : ∃ z : kM, z = va_up s2 27 (va_up (s2 27) 6 v4) := ⟨_, rfl⟩
          refine k_put (ty := .boolean) (ws' := wC ad kc nn s3) (ci := 8) (C := R_M) (T := T_M) (N := 32) hx hb hts (fun w q => gG_in (inG_M w q)) ty_M tk_M nm_M hown hK hW 27 rfl rfl 6 (by decide) (hts _ (gG_in mw_753)) rfl (by decide +kernel) (narZ q9) (fitZ q9) (Nat.le_of_ble_eq_true rfl) (by rw [es3]; exact wC_p27_6 ..) dM_cell_119 (fun H locs hW => ?_)
          have h := h s3 es3
          refine lv_aload_n hx hb dM_cell_122 rfl (lv_at hl 1 rfl) ?_
          refine lv_aload_n hx hb dM_cell_123 rfl (lv_at hl 1 rfl) ?_
          refine k_get (ci := 8) (C := R_M) (T := T_M) (N := 32) hx hb hts (fun w q => gG_in (inG_M w q)) hown hK hW.1 27 rfl rfl 9 (by decide) (hts _ (gG_in mw_756)) rfl dM_cell_124 ?_
          obtain ⟨q10, h⟩ := h
          have jW1 : ∀ (v5 : Int) (H : Heap) (locs : List Loc) (ls : Array Slot), kW (dC, dI) vwC A s.heap (wC ad kc nn s3) H locs → lv_has ls 7 [(6, .int (iI v3)), (0, .ref (ad 27))] → jn_M_cell_140 nn P v3 s3 v5 → W p l e (headSpec ws_M_cell rm_M_cell).room s m args below meth c H locs 0 0 (MQ below (kQi (dC, dI) vwC (wC ad kc nn) P A) args s 0 0 A) (F0 m 140 ls [.int (iI v5), .ref (ad 27)]) := by
            intro v5 H locs ls hW hl h
            unfold jn_M_cell_140 at h
            obtain ⟨q11, h⟩ := h
            obtain ⟨s4, es4⟩ : ∃ z : kM, z = va_up s3 27 (va_up (s3 27) 9 v5) := ⟨_, rfl⟩
            refine k_put (ty := .boolean) (ws' := wC ad kc nn s4) (ci := 8) (C := R_M) (T := T_M) (N := 32) hx hb hts (fun w q => gG_in (inG_M w q)) ty_M tk_M nm_M hown hK hW 27 rfl rfl 9 (by decide) (hts _ (gG_in mw_756)) rfl (by decide +kernel) (narZ q11) (fitZ q11) (Nat.le_of_ble_eq_true rfl) (by rw [es4]; exact wC_p27_9 ..) dM_cell_140 (fun H locs hW => ?_)
            have h := h s4 es4
            refine lv_aload_n hx hb dM_cell_143 rfl (lv_at hl 1 rfl) ?_
            refine lv_aload_n hx hb dM_cell_144 rfl (lv_at hl 1 rfl) ?_
            refine k_get (ci := 8) (C := R_M) (T := T_M) (N := 32) hx hb hts (fun w q => gG_in (inG_M w q)) hown hK hW.1 27 rfl rfl 21 (by decide) (hts _ (gG_in mw_768)) rfl dM_cell_145 ?_
            obtain ⟨q12, h⟩ := h
            obtain ⟨ht, hf⟩ := h
            refine ki_if_eq (tgt := 160) hx hb dM_cell_148 (by decide) q12 (fun c2 => ?_) (fun c2 => ?_)
            · have h := ht c2
              refine lv_iconst (v := iI 0) hx hb dM_cell_160 rfl ?_
              obtain ⟨s5, es5⟩ : ∃ z : kM, z = va_up s4 27 (va_up (s4 27) 21 0) := ⟨_, rfl⟩
              refine k_put (ty := .boolean) (ws' := wC ad kc nn s5) (ci := 8) (C := R_M) (T := T_M) (N := 32) hx hb hts (fun w q => gG_in (inG_M w q)) ty_M tk_M nm_M hown hK hW 27 rfl rfl 21 (by decide) (hts _ (gG_in mw_768)) rfl (by decide +kernel) (narZ (by decide)) (fitZ (by decide)) (Nat.le_of_ble_eq_true rfl) (by rw [es5]; exact wC_p27_21 ..) dM_cell_161 (fun H locs hW => ?_)
              have h := h s5 es5
              refine lv_iload hx hb dM_cell_164 (lv_at hl 0 rfl) ?_
              exact k_zret hx hb hr hlocks hW dM_cell_166 h.1 h.2
            · have h := hf c2
              refine lv_iload hx hb dM_cell_151 (lv_at hl 0 rfl) ?_
              obtain ⟨q13, h⟩ := h
              obtain ⟨ht, hf⟩ := h
              refine ki_if_ne (tgt := 160) hx hb dM_cell_153 (by decide) q13 (fun c3 => ?_) (fun c3 => ?_)
              · have h := ht c3
                refine lv_iconst (v := iI 0) hx hb dM_cell_160 rfl ?_
                obtain ⟨s6, es6⟩ : ∃ z : kM, z = va_up s4 27 (va_up (s4 27) 21 0) := ⟨_, rfl⟩
                refine k_put (ty := .boolean) (ws' := wC ad kc nn s6) (ci := 8) (C := R_M) (T := T_M) (N := 32) hx hb hts (fun w q => gG_in (inG_M w q)) ty_M tk_M nm_M hown hK hW 27 rfl rfl 21 (by decide) (hts _ (gG_in mw_768)) rfl (by decide +kernel) (narZ (by decide)) (fitZ (by decide)) (Nat.le_of_ble_eq_true rfl) (by rw [es6]; exact wC_p27_21 ..) dM_cell_161 (fun H locs hW => ?_)
                have h := h s6 es6
                refine lv_iload hx hb dM_cell_164 (lv_at hl 0 rfl) ?_
                exact k_zret hx hb hr hlocks hW dM_cell_166 h.1 h.2
              · have h := hf c3
                refine lv_iconst (v := iI 1) hx hb dM_cell_156 rfl ?_
                refine lv_goto (tgt := 161) hx hb dM_cell_157 (by decide) ?_
                obtain ⟨s7, es7⟩ : ∃ z : kM, z = va_up s4 27 (va_up (s4 27) 21 1) := ⟨_, rfl⟩
                refine k_put (ty := .boolean) (ws' := wC ad kc nn s7) (ci := 8) (C := R_M) (T := T_M) (N := 32) hx hb hts (fun w q => gG_in (inG_M w q)) ty_M tk_M nm_M hown hK hW 27 rfl rfl 21 (by decide) (hts _ (gG_in mw_768)) rfl (by decide +kernel) (narZ (by decide)) (fitZ (by decide)) (Nat.le_of_ble_eq_true rfl) (by rw [es7]; exact wC_p27_21 ..) dM_cell_161 (fun H locs hW => ?_)
                have h := h s7 es7
                refine lv_iload hx hb dM_cell_164 (lv_at hl 0 rfl) ?_
                exact k_zret hx hb hr hlocks hW dM_cell_166 h.1 h.2
          obtain ⟨ht, hf⟩ := h
          refine ki_if_eq (tgt := 139) hx hb dM_cell_127 (by decide) q10 (fun c4 => ?_) (fun c4 => ?_)
          · have h := ht c4
            refine lv_iconst (v := iI 0) hx hb dM_cell_139 rfl ?_
            exact jW1 0 _ _ ls hW (lv_sub hl [0, 1] rfl) h
          · have h := hf c4
            refine lv_iload hx hb dM_cell_130 (lv_at hl 0 rfl) ?_
            obtain ⟨q14, h⟩ := h
            obtain ⟨ht, hf⟩ := h
            refine ki_if_ne (tgt := 139) hx hb dM_cell_132 (by decide) q14 (fun c5 => ?_) (fun c5 => ?_)
            · have h := ht c5
              refine lv_iconst (v := iI 0) hx hb dM_cell_139 rfl ?_
              exact jW1 0 _ _ ls hW (lv_sub hl [0, 1] rfl) h
            · have h := hf c5
              refine lv_iconst (v := iI 1) hx hb dM_cell_135 rfl ?_
              refine lv_goto (tgt := 140) hx hb dM_cell_136 (by decide) ?_
              exact jW1 1 _ _ ls hW (lv_sub hl [0, 1] rfl) h
        obtain ⟨ht, hf⟩ := h
        refine ki_if_eq (tgt := 118) hx hb dM_cell_106 (by decide) q8 (fun c6 => ?_) (fun c6 => ?_)
        · have h := ht c6
          refine lv_iconst (v := iI 0) hx hb dM_cell_118 rfl ?_
          exact jW2 0 _ _ ls hW (lv_sub hl [0, 2] rfl) h
        · have h := hf c6
          refine lv_iload hx hb dM_cell_109 (lv_at hl 0 rfl) ?_
          obtain ⟨q15, h⟩ := h
          obtain ⟨ht, hf⟩ := h
          refine ki_if_ne (tgt := 118) hx hb dM_cell_111 (by decide) q15 (fun c7 => ?_) (fun c7 => ?_)
          · have h := ht c7
            refine lv_iconst (v := iI 0) hx hb dM_cell_118 rfl ?_
            exact jW2 0 _ _ ls hW (lv_sub hl [0, 2] rfl) h
          · have h := hf c7
            refine lv_iconst (v := iI 1) hx hb dM_cell_114 rfl ?_
            refine lv_goto (tgt := 119) hx hb dM_cell_115 (by decide) ?_
            exact jW2 1 _ _ ls hW (lv_sub hl [0, 2] rfl) h
      obtain ⟨ht, hf⟩ := h
      refine ki_icmp_eq (tgt := 89) hx hb dM_cell_82 (by decide) q4 q5 (fun c8 => ?_) (fun c8 => ?_)
      · have h := ht c8
        refine lv_iconst (v := iI 0) hx hb dM_cell_89 rfl ?_
        exact jW3 0 _ _ ls hW (lv_sub hl [0, 1, 5] rfl) h
      · have h := hf c8
        refine lv_iconst (v := iI 1) hx hb dM_cell_85 rfl ?_
        refine lv_goto (tgt := 90) hx hb dM_cell_86 (by decide) ?_
        exact jW3 1 _ _ ls hW (lv_sub hl [0, 1, 5] rfl) h
    · have h := hf c1
      refine lv_iconst (v := iI 0) hx hb dM_cell_58 rfl ?_
      exact k_zret hx hb hr hlocks hW dM_cell_59 (by decide) h
  obtain ⟨ht, hf⟩ := h
  refine ki_if_eq (tgt := 47) hx hb dM_cell_12 (by decide) q1 (fun c9 => ?_) (fun c9 => ?_)
  · have h := ht c9
    refine lv_iconst (v := iI 1) hx hb dM_cell_47 rfl ?_
    exact jW4 1 _ _ ls hW (lv_sub hl [0, 1, 2, 3, 4] rfl) h
  · have h := hf c9
    refine lv_iload_n hx hb dM_cell_15 rfl (lv_at hl 2 rfl) ?_
    refine lv_iconst (v := iI 0) hx hb dM_cell_16 rfl ?_
    refine lv_aload_n hx hb dM_cell_17 rfl (lv_at hl 0 rfl) ?_
    refine k_get (ci := 8) (C := R_M) (T := T_M) (N := 32) hx hb hts (fun w q => gG_in (inG_M w q)) hown hK hW.1 27 rfl rfl 2 (by decide) (hts _ (gG_in mw_749)) rfl dM_cell_18 ?_
    refine lv_iconst (v := iI 1) hx hb dM_cell_21 rfl ?_
    refine ki_sub hx hb dM_cell_22 ?_
    obtain ⟨P2, g2, h⟩ := h
    refine kc_sp (As := [.int (iI p1), .int (iI 0), .int (iI ((σ 27 2) - 1))]) (rest := [.ref (ad 27)]) S (c_M_isIn l dC dI (tyC kc) (wC ad kc nn) nn σ p1 0 ((σ 27 2) - 1) g2) (cwS 3 hts (gS mw_852 mw_853 mw_10 k_M_isIn) rfl rfl rfl (by decide +kernel) ⟨Nat.le_of_ble_eq_true rfl, Nat.le_of_ble_eq_true rfl⟩) hK hN hW.1 rfl hl.1 rfl (Nat.le_of_ble_eq_true rfl) dM_cell_23 ⟨Nat.zero_le _, Nat.zero_le _⟩ (fun r2 hp => ?_)
    have h := h r2 hp
    obtain ⟨q16, h⟩ := h
    obtain ⟨ht, hf⟩ := h
    refine ki_if_eq (tgt := 47) hx hb dM_cell_26 (by decide) q16 (fun c10 => ?_) (fun c10 => ?_)
    · have h := ht c10
      refine lv_iconst (v := iI 1) hx hb dM_cell_47 rfl ?_
      exact jW4 1 _ _ ls hW (lv_sub hl [0, 1, 2, 3, 4] rfl) h
    · have h := hf c10
      refine lv_iload_n hx hb dM_cell_29 rfl (lv_at hl 3 rfl) ?_
      refine lv_iconst (v := iI 0) hx hb dM_cell_30 rfl ?_
      refine lv_aload_n hx hb dM_cell_31 rfl (lv_at hl 0 rfl) ?_
      refine k_get (ci := 8) (C := R_M) (T := T_M) (N := 32) hx hb hts (fun w q => gG_in (inG_M w q)) hown hK hW.1 27 rfl rfl 2 (by decide) (hts _ (gG_in mw_749)) rfl dM_cell_32 ?_
      refine lv_iconst (v := iI 1) hx hb dM_cell_35 rfl ?_
      refine ki_sub hx hb dM_cell_36 ?_
      obtain ⟨P3, g3, h⟩ := h
      refine kc_sp (As := [.int (iI p2), .int (iI 0), .int (iI ((σ 27 2) - 1))]) (rest := [.ref (ad 27)]) S (c_M_isIn l dC dI (tyC kc) (wC ad kc nn) nn σ p2 0 ((σ 27 2) - 1) g3) (cwS 3 hts (gS mw_852 mw_853 mw_10 k_M_isIn) rfl rfl rfl (by decide +kernel) ⟨Nat.le_of_ble_eq_true rfl, Nat.le_of_ble_eq_true rfl⟩) hK hN hW.1 rfl hl.1 rfl (Nat.le_of_ble_eq_true rfl) dM_cell_37 ⟨Nat.zero_le _, Nat.zero_le _⟩ (fun r3 hp => ?_)
      have h := h r3 hp
      obtain ⟨q17, h⟩ := h
      obtain ⟨ht, hf⟩ := h
      refine ki_if_eq (tgt := 47) hx hb dM_cell_40 (by decide) q17 (fun c11 => ?_) (fun c11 => ?_)
      · have h := ht c11
        refine lv_iconst (v := iI 1) hx hb dM_cell_47 rfl ?_
        exact jW4 1 _ _ ls hW (lv_sub hl [0, 1, 2, 3, 4] rfl) h
      · have h := hf c11
        refine lv_iconst (v := iI 0) hx hb dM_cell_43 rfl ?_
        refine lv_goto (tgt := 48) hx hb dM_cell_44 (by decide) ?_
        exact jW4 0 _ _ ls hW (lv_sub hl [0, 1, 2, 3, 4] rfl) h
abbrev rm_M_less : Room := { frames := 0, cells := 0, slots := 0, locals := 0 }
set_option maxHeartbeats 4000000 in
set_option maxRecDepth 100000 in
theorem c_M_less (l : Launch) (dC : Nat → ClassId) (dI : Nat → Nat → Nat) (tys : List (ClassId × FieldType)) (w : kM → va_W) (nn : Nat → Nat) (σ : kM) (p0 : Int) (p1 : Int) {P : Int → Prop} (h : wp_M_less nn σ p0 p1 P) : kMp l y_M_less ws_M_less rm_M_less (dC, dI) vwC tys w nsG σ [.int (iI p0), .int (iI p1)] P := by
  refine k_enterP (cc := b_M_less) (maxL := 2) (ret := (some .int)) (by decide) rfl (Nat.le_of_ble_eq_true rfl) ?_
  intro p e s m below meth c ls S hr hlocks hP hK hN hl
  generalize ([.int (iI p0), .int (iI p1)] : List Value).toArray = args at S ⊢
  obtain ⟨hx, hb, hml, hown, hts⟩ := id S
  have hl : lv_has ls 2 [(0, .int (iI p0)), (1, .int (iI p1))] := hl
  unfold wp_M_less at h
  refine lv_iload_n hx hb dM_less_0 rfl (lv_at hl 0 rfl) ?_
  refine lv_iload_n hx hb dM_less_1 rfl (lv_at hl 1 rfl) ?_
  obtain ⟨q1, h⟩ := h
  obtain ⟨q2, h⟩ := h
  obtain ⟨ht, hf⟩ := h
  refine ki_icmp_ge (tgt := 9) hx hb dM_less_2 (by decide) q1 q2 (fun c1 => ?_) (fun c1 => ?_)
  · have h := ht c1
    refine lv_iload_n hx hb dM_less_9 rfl (lv_at hl 1 rfl) ?_
    exact k_iretP hx hb hr hlocks dM_less_10 h
  · have h := hf c1
    refine lv_iload_n hx hb dM_less_5 rfl (lv_at hl 0 rfl) ?_
    refine lv_goto (tgt := 10) hx hb dM_less_6 (by decide) ?_
    exact k_iretP hx hb hr hlocks dM_less_10 h
abbrev rm_M_off : Room := { frames := 0, cells := 0, slots := 0, locals := 0 }
set_option maxHeartbeats 4000000 in
set_option maxRecDepth 100000 in
theorem c_M_off (l : Launch) (dC : Nat → ClassId) (dI : Nat → Nat → Nat) (tys : List (ClassId × FieldType)) (w : kM → va_W) (nn : Nat → Nat) (σ : kM) (p0 : Int) (p1 : Int) (p2 : Int) {P : Int → Prop} (h : wp_M_off nn σ p0 p1 p2 P) : kMp l y_M_off ws_M_off rm_M_off (dC, dI) vwC tys w nsG σ [.int (iI p0), .int (iI p1), .int (iI p2)] P := by
  refine k_enterP (cc := b_M_off) (maxL := 3) (ret := (some .int)) (by decide) rfl (Nat.le_of_ble_eq_true rfl) ?_
  intro p e s m below meth c ls S hr hlocks hP hK hN hl
  generalize ([.int (iI p0), .int (iI p1), .int (iI p2)] : List Value).toArray = args at S ⊢
  obtain ⟨hx, hb, hml, hown, hts⟩ := id S
  have hl : lv_has ls 3 [(0, .int (iI p0)), (1, .int (iI p1)), (2, .int (iI p2))] := hl
  unfold wp_M_off at h
  refine lv_iload_n hx hb dM_off_0 rfl (lv_at hl 0 rfl) ?_
  refine lv_iload_n hx hb dM_off_1 rfl (lv_at hl 1 rfl) ?_
  obtain ⟨q1, h⟩ := h
  obtain ⟨q2, h⟩ := h
  obtain ⟨ht, hf⟩ := h
  refine ki_icmp_ge (tgt := 11) hx hb dM_off_2 (by decide) q1 q2 (fun c1 => ?_) (fun c1 => ?_)
  · have h := ht c1
    refine lv_iload_n hx hb dM_off_11 rfl (lv_at hl 0 rfl) ?_
    refine lv_iload_n hx hb dM_off_12 rfl (lv_at hl 2 rfl) ?_
    obtain ⟨q3, h⟩ := h
    obtain ⟨q4, h⟩ := h
    obtain ⟨ht, hf⟩ := h
    refine ki_icmp_le (tgt := 22) hx hb dM_off_13 (by decide) q3 q4 (fun c2 => ?_) (fun c2 => ?_)
    · have h := ht c2
      refine lv_iconst (v := iI 0) hx hb dM_off_22 rfl ?_
      exact k_iretP hx hb hr hlocks dM_off_23 h
    · have h := hf c2
      refine lv_iload_n hx hb dM_off_16 rfl (lv_at hl 0 rfl) ?_
      refine lv_iload_n hx hb dM_off_17 rfl (lv_at hl 2 rfl) ?_
      refine ki_sub hx hb dM_off_18 ?_
      refine lv_goto (tgt := 23) hx hb dM_off_19 (by decide) ?_
      exact k_iretP hx hb hr hlocks dM_off_23 h
  · have h := hf c1
    refine lv_iload_n hx hb dM_off_5 rfl (lv_at hl 1 rfl) ?_
    refine lv_iload_n hx hb dM_off_6 rfl (lv_at hl 0 rfl) ?_
    refine ki_sub hx hb dM_off_7 ?_
    refine lv_goto (tgt := 23) hx hb dM_off_8 (by decide) ?_
    exact k_iretP hx hb hr hlocks dM_off_23 h
abbrev rm_M_square : Room := { frames := 1, cells := 0, slots := 0, locals := 22 }
set_option maxHeartbeats 4000000 in
set_option maxRecDepth 100000 in
theorem c_M_square (l : Launch) (dC : Nat → ClassId) (dI : Nat → Nat → Nat) (ad : Nat → Nat) (kc : Nat → ClassId) (nn : Nat → Nat) (σ : kM) (p0 : Int) (p1 : Int) (p2 : Int) {P : Int → Prop} (h : wp_M_square nn σ p0 p1 p2 P) : kMp l y_M_square ws_M_square rm_M_square (dC, dI) vwC (tyC kc) (wC ad kc nn) nsG σ [.ref (ad 27), .int (iI p0), .int (iI p1), .int (iI p2)] P := by
  refine k_enterP (cc := b_M_square) (maxL := 11) (ret := (some .int)) (by decide) rfl (Nat.le_of_ble_eq_true rfl) ?_
  intro p e s m below meth c ls S hr hlocks hP hK hN hl
  generalize ([.ref (ad 27), .int (iI p0), .int (iI p1), .int (iI p2)] : List Value).toArray = args at S ⊢
  obtain ⟨hx, hb, hml, hown, hts⟩ := id S
  have hl : lv_has ls 11 [(0, .ref (ad 27)), (1, .int (iI p0)), (2, .int (iI p1)), (3, .int (iI p2))] := hl
  unfold wp_M_square at h
  refine lv_aload_n hx hb dM_square_0 rfl (lv_at hl 0 rfl) ?_
  refine k_get (ci := 8) (C := R_M) (T := T_M) (N := 32) hx hb hts (fun w q => gG_in (inG_M w q)) hown hK hP 27 rfl rfl 2 (by decide) (hts _ (gG_in mw_749)) rfl dM_square_1 ?_
  refine lv_aload_n hx hb dM_square_4 rfl (lv_at hl 0 rfl) ?_
  refine k_get (ci := 8) (C := R_M) (T := T_M) (N := 32) hx hb hts (fun w q => gG_in (inG_M w q)) hown hK hP 27 rfl rfl 3 (by decide) (hts _ (gG_in mw_750)) rfl dM_square_5 ?_
  refine ki_mul hx hb dM_square_8 ?_
  refine ki_nm (fun v1 ev1 => ?_)
  have h := h v1 ev1
  refine lv_istore (lv' := [(4, .int (iI v1)), (0, .ref (ad 27)), (1, .int (iI p0)), (2, .int (iI p1)), (3, .int (iI p2))]) hx hb dM_square_9 hl (by decide) rfl (fun ls hl => ?_)
  refine lv_iload_n hx hb dM_square_11 rfl (lv_at hl 3 rfl) ?_
  refine lv_iload hx hb dM_square_12 (lv_at hl 0 rfl) ?_
  refine lv_iload_n hx hb dM_square_14 rfl (lv_at hl 3 rfl) ?_
  refine ki_sub hx hb dM_square_15 ?_
  obtain ⟨P1, g1, h⟩ := h
  refine kc_sp (As := [.int (iI p1), .int (iI (v1 - p1))]) (rest := []) S (c_M_less l dC dI (tyC kc) (wC ad kc nn) nn σ p1 (v1 - p1) g1) (cwS 2 hts (gS mw_867 mw_868 mw_10 k_M_less) rfl rfl rfl (by decide +kernel) ⟨Nat.le_of_ble_eq_true rfl, Nat.le_of_ble_eq_true rfl⟩) hK hN hP rfl hl.1 rfl (Nat.le_of_ble_eq_true rfl) dM_square_16 ⟨Nat.zero_le _, Nat.zero_le _⟩ (fun r1 hp => ?_)
  have h := h r1 hp
  refine lv_iload_n hx hb dM_square_19 rfl (lv_at hl 4 rfl) ?_
  refine lv_iload hx hb dM_square_20 (lv_at hl 0 rfl) ?_
  refine lv_iload_n hx hb dM_square_22 rfl (lv_at hl 4 rfl) ?_
  refine ki_sub hx hb dM_square_23 ?_
  obtain ⟨P2, g2, h⟩ := h
  refine kc_sp (As := [.int (iI p2), .int (iI (v1 - p2))]) (rest := [.int (iI r1)]) S (c_M_less l dC dI (tyC kc) (wC ad kc nn) nn σ p2 (v1 - p2) g2) (cwS 2 hts (gS mw_867 mw_868 mw_10 k_M_less) rfl rfl rfl (by decide +kernel) ⟨Nat.le_of_ble_eq_true rfl, Nat.le_of_ble_eq_true rfl⟩) hK hN hP rfl hl.1 rfl (Nat.le_of_ble_eq_true rfl) dM_square_24 ⟨Nat.zero_le _, Nat.zero_le _⟩ (fun r2 hp => ?_)
  have h := h r2 hp
  obtain ⟨P3, g3, h⟩ := h
  refine kc_sp (As := [.int (iI r1), .int (iI r2)]) (rest := []) S (c_M_less l dC dI (tyC kc) (wC ad kc nn) nn σ r1 r2 g3) (cwS 2 hts (gS mw_867 mw_868 mw_10 k_M_less) rfl rfl rfl (by decide +kernel) ⟨Nat.le_of_ble_eq_true rfl, Nat.le_of_ble_eq_true rfl⟩) hK hN hP rfl hl.1 rfl (Nat.le_of_ble_eq_true rfl) dM_square_27 ⟨Nat.zero_le _, Nat.zero_le _⟩ (fun r3 hp => ?_)
  have h := h r3 hp
  refine lv_istore (lv' := [(5, .int (iI r3)), (4, .int (iI v1)), (0, .ref (ad 27)), (1, .int (iI p0)), (2, .int (iI p1)), (3, .int (iI p2))]) hx hb dM_square_30 hl (by decide) rfl (fun ls hl => ?_)
  refine lv_iload hx hb dM_square_32 (lv_at hl 0 rfl) ?_
  refine lv_iload hx hb dM_square_34 (lv_at hl 0 rfl) ?_
  refine ki_mul hx hb dM_square_36 ?_
  refine ki_nm (fun v2 ev2 => ?_)
  have h := h v2 ev2
  refine lv_istore (lv' := [(6, .int (iI v2)), (5, .int (iI r3)), (4, .int (iI v1)), (0, .ref (ad 27)), (1, .int (iI p0)), (2, .int (iI p1)), (3, .int (iI p2))]) hx hb dM_square_37 hl (by decide) rfl (fun ls hl => ?_)
  refine lv_iconst (v := iI 0) hx hb dM_square_39 rfl ?_
  refine lv_istore (lv' := [(7, .int (iI 0)), (6, .int (iI v2)), (5, .int (iI r3)), (4, .int (iI v1)), (0, .ref (ad 27)), (1, .int (iI p0)), (2, .int (iI p1)), (3, .int (iI p2))]) hx hb dM_square_40 hl (by decide) rfl (fun ls hl => ?_)
  obtain ⟨Pe1, k1, h, hk1⟩ := h
  have xW1 : ∀ (v5 : Int) (v6 : Int) (ls : Array Slot), lv_has ls 11 [(6, .int (iI v6))] → Pe1 v5 v6 → W p l e (headSpec ws_M_square rm_M_square).room s m args below meth c s.heap [] 0 0 (MQ below (kQp P) args s 0 0 (fun _ => False)) (F0 m 164 ls []) := by
    intro v5 v6 ls hl h
    have h := hk1 v5 v6 h
    refine lv_iload hx hb dM_square_164 (lv_at hl 0 rfl) ?_
    exact k_iretP hx hb hr hlocks dM_square_166 h
  have lW2 : ∀ (ki2 : Nat) (v3 : Int) (v4 : Int) (ls : Array Slot), lv_has ls 11 [(7, .int (iI v3)), (6, .int (iI v4)), (0, .ref (ad 27)), (1, .int (iI p0)), (2, .int (iI p1)), (3, .int (iI p2))] → lp_M_square_42 nn p0 p1 p2 σ Pe1 ki2 v3 v4 → W p l e (headSpec ws_M_square rm_M_square).room s m args below meth c s.heap [] 0 0 (MQ below (kQp P) args s 0 0 (fun _ => False)) (F0 m 42 ls []) := by
    intro ki2
    induction ki2 with
    | zero => intro v3 v4 ls hl h; exact h.elim
    | succ ki2 ih2 =>
      intro v3 v4 ls hl h
      have h : lpB_M_square_42 nn p0 p1 p2 σ Pe1 (lp_M_square_42 nn p0 p1 p2 σ Pe1 ki2) v3 v4 := h
      unfold lpB_M_square_42 at h
      refine lv_iload hx hb dM_square_42 (lv_at hl 0 rfl) ?_
      refine lv_aload_n hx hb dM_square_44 rfl (lv_at hl 2 rfl) ?_
      refine k_get (ci := 8) (C := R_M) (T := T_M) (N := 32) hx hb hts (fun w q => gG_in (inG_M w q)) hown hK hP 27 rfl rfl 2 (by decide) (hts _ (gG_in mw_749)) rfl dM_square_45 ?_
      obtain ⟨q1, h⟩ := h
      obtain ⟨q2, h⟩ := h
      obtain ⟨ht, hf⟩ := h
      refine ki_icmp_ge (tgt := 164) hx hb dM_square_48 (by decide) q1 q2 (fun c1 => ?_) (fun c1 => ?_)
      · have h := ht c1
        exact xW1 v3 v4 ls (lv_sub hl [1] rfl) h
      · have h := hf c1
        refine lv_iconst (v := iI 0) hx hb dM_square_51 rfl ?_
        refine lv_istore (lv' := [(8, .int (iI 0)), (7, .int (iI v3)), (6, .int (iI v4)), (0, .ref (ad 27)), (1, .int (iI p0)), (2, .int (iI p1)), (3, .int (iI p2))]) hx hb dM_square_52 hl (by decide) rfl (fun ls hl => ?_)
        obtain ⟨Pe2, k2, h, hk2⟩ := h
        have xW2 : ∀ (v9 : Int) (v10 : Int) (ls : Array Slot), lv_has ls 11 [(7, .int (iI v3)), (6, .int (iI v10)), (0, .ref (ad 27)), (1, .int (iI p0)), (2, .int (iI p1)), (3, .int (iI p2))] → Pe2 v9 v10 → W p l e (headSpec ws_M_square rm_M_square).room s m args below meth c s.heap [] 0 0 (MQ below (kQp P) args s 0 0 (fun _ => False)) (F0 m 158 ls []) := by
          intro v9 v10 ls hl h
          have h := hk2 v9 v10 h
          obtain ⟨v11, ev11⟩ : ∃ z : Int, z = v3 + 1 := ⟨_, rfl⟩
          refine lv_iinc (v := iI v11) (lv' := [(7, .int (iI v11)), (6, .int (iI v10)), (0, .ref (ad 27)), (1, .int (iI p0)), (2, .int (iI p1)), (3, .int (iI p2))]) hx hb dM_square_158 hl (k := 0) rfl (by rw [ev11, ← iI_add]; rfl) (by decide) rfl (fun ls hl => ?_)
          have h := h v11 ev11
          refine lv_goto (tgt := 42) hx hb dM_square_161 (by decide) ?_
          exact ih2 v11 v10 ls (lv_sub hl [0, 1, 2, 3, 4, 5] rfl) h
        have lW1 : ∀ (ki1 : Nat) (v7 : Int) (v8 : Int) (ls : Array Slot), lv_has ls 11 [(8, .int (iI v7)), (7, .int (iI v3)), (6, .int (iI v8)), (0, .ref (ad 27)), (1, .int (iI p0)), (2, .int (iI p1)), (3, .int (iI p2))] → lp_M_square_54 nn p0 p1 p2 σ v3 Pe2 ki1 v7 v8 → W p l e (headSpec ws_M_square rm_M_square).room s m args below meth c s.heap [] 0 0 (MQ below (kQp P) args s 0 0 (fun _ => False)) (F0 m 54 ls []) := by
          intro ki1
          induction ki1 with
          | zero => intro v7 v8 ls hl h; exact h.elim
          | succ ki1 ih1 =>
            intro v7 v8 ls hl h
            have h : lpB_M_square_54 nn p0 p1 p2 σ v3 Pe2 (lp_M_square_54 nn p0 p1 p2 σ v3 Pe2 ki1) v7 v8 := h
            unfold lpB_M_square_54 at h
            refine lv_iload hx hb dM_square_54 (lv_at hl 0 rfl) ?_
            refine lv_aload_n hx hb dM_square_56 rfl (lv_at hl 3 rfl) ?_
            refine k_get (ci := 8) (C := R_M) (T := T_M) (N := 32) hx hb hts (fun w q => gG_in (inG_M w q)) hown hK hP 27 rfl rfl 2 (by decide) (hts _ (gG_in mw_749)) rfl dM_square_57 ?_
            obtain ⟨q3, h⟩ := h
            obtain ⟨q4, h⟩ := h
            obtain ⟨ht, hf⟩ := h
            refine ki_icmp_ge (tgt := 158) hx hb dM_square_60 (by decide) q3 q4 (fun c2 => ?_) (fun c2 => ?_)
            · have h := ht c2
              exact xW2 v7 v8 ls (lv_sub hl [1, 2, 3, 4, 5, 6] rfl) h
            · have h := hf c2
              refine lv_aload_n hx hb dM_square_63 rfl (lv_at hl 3 rfl) ?_
              refine k_get (ci := 8) (C := R_M) (T := T_M) (N := 32) hx hb hts (fun w q => gG_in (inG_M w q)) hown hK hP 27 rfl rfl 4 (by decide) (hts _ (gG_in mw_751)) rfl dM_square_64 ?_
              refine lv_bipush (v := iI 100) hx hb dM_square_67 (by decide) ?_
              refine lv_iload_n hx hb dM_square_69 rfl (lv_at hl 4 rfl) ?_
              refine ki_mul hx hb dM_square_70 ?_
              refine lv_bipush (v := iI 10) hx hb dM_square_71 (by decide) ?_
              refine lv_iload hx hb dM_square_73 (lv_at hl 1 rfl) ?_
              refine ki_mul hx hb dM_square_75 ?_
              refine ki_add hx hb dM_square_76 ?_
              refine lv_iload hx hb dM_square_77 (lv_at hl 0 rfl) ?_
              refine ki_add hx hb dM_square_79 ?_
              obtain ⟨q5, h⟩ := h
              refine k_zald hx hb hK hP 28 19 (σ 28) rfl rfl q5 dM_square_80 ?_
              obtain ⟨q6, h⟩ := h
              obtain ⟨ht, hf⟩ := h
              refine ki_if_ne (tgt := 152) hx hb dM_square_81 (by decide) q6 (fun c3 => ?_) (fun c3 => ?_)
              · have h := ht c3
                obtain ⟨v12, ev12⟩ : ∃ z : Int, z = v7 + 1 := ⟨_, rfl⟩
                refine lv_iinc (v := iI v12) (lv' := [(8, .int (iI v12)), (7, .int (iI v3)), (6, .int (iI v8)), (0, .ref (ad 27)), (1, .int (iI p0)), (2, .int (iI p1)), (3, .int (iI p2))]) hx hb dM_square_152 hl (k := 0) rfl (by rw [ev12, ← iI_add]; rfl) (by decide) rfl (fun ls hl => ?_)
                have h := h v12 ev12
                refine lv_goto (tgt := 54) hx hb dM_square_155 (by decide) ?_
                exact ih1 v12 v8 ls (lv_sub hl [0, 1, 2, 3, 4, 5, 6] rfl) h
              · have h := hf c3
                refine lv_iload_n hx hb dM_square_84 rfl (lv_at hl 5 rfl) ?_
                refine lv_iload hx hb dM_square_85 (lv_at hl 0 rfl) ?_
                refine lv_aload_n hx hb dM_square_87 rfl (lv_at hl 3 rfl) ?_
                refine k_get (ci := 8) (C := R_M) (T := T_M) (N := 32) hx hb hts (fun w q => gG_in (inG_M w q)) hown hK hP 27 rfl rfl 3 (by decide) (hts _ (gG_in mw_750)) rfl dM_square_88 ?_
                refine ki_mul hx hb dM_square_91 ?_
                refine lv_iload hx hb dM_square_92 (lv_at hl 0 rfl) ?_
                refine lv_aload_n hx hb dM_square_94 rfl (lv_at hl 3 rfl) ?_
                refine k_get (ci := 8) (C := R_M) (T := T_M) (N := 32) hx hb hts (fun w q => gG_in (inG_M w q)) hown hK hP 27 rfl rfl 3 (by decide) (hts _ (gG_in mw_750)) rfl dM_square_95 ?_
                refine ki_mul hx hb dM_square_98 ?_
                refine lv_aload_n hx hb dM_square_99 rfl (lv_at hl 3 rfl) ?_
                refine k_get (ci := 8) (C := R_M) (T := T_M) (N := 32) hx hb hts (fun w q => gG_in (inG_M w q)) hown hK hP 27 rfl rfl 3 (by decide) (hts _ (gG_in mw_750)) rfl dM_square_100 ?_
                refine ki_add hx hb dM_square_103 ?_
                obtain ⟨P4, g4, h⟩ := h
                refine kc_sp (As := [.int (iI p1), .int (iI (v7 * (σ 27 3))), .int (iI ((v7 * (σ 27 3)) + (σ 27 3)))]) (rest := []) S (c_M_off l dC dI (tyC kc) (wC ad kc nn) nn σ p1 (v7 * (σ 27 3)) ((v7 * (σ 27 3)) + (σ 27 3)) g4) (cwS 3 hts (gS mw_870 mw_871 mw_10 k_M_off) rfl rfl rfl (by decide +kernel) ⟨Nat.le_of_ble_eq_true rfl, Nat.le_of_ble_eq_true rfl⟩) hK hN hP rfl hl.1 rfl (Nat.le_of_ble_eq_true rfl) dM_square_104 ⟨Nat.zero_le _, Nat.zero_le _⟩ (fun r4 hp => ?_)
                have h := h r4 hp
                refine lv_istore (lv' := [(9, .int (iI r4)), (8, .int (iI v7)), (7, .int (iI v3)), (6, .int (iI v8)), (0, .ref (ad 27)), (1, .int (iI p0)), (2, .int (iI p1)), (3, .int (iI p2))]) hx hb dM_square_107 hl (by decide) rfl (fun ls hl => ?_)
                refine lv_iload_n hx hb dM_square_109 rfl (lv_at hl 7 rfl) ?_
                refine lv_iload hx hb dM_square_110 (lv_at hl 2 rfl) ?_
                refine lv_aload_n hx hb dM_square_112 rfl (lv_at hl 4 rfl) ?_
                refine k_get (ci := 8) (C := R_M) (T := T_M) (N := 32) hx hb hts (fun w q => gG_in (inG_M w q)) hown hK hP 27 rfl rfl 3 (by decide) (hts _ (gG_in mw_750)) rfl dM_square_113 ?_
                refine ki_mul hx hb dM_square_116 ?_
                refine lv_iload hx hb dM_square_117 (lv_at hl 2 rfl) ?_
                refine lv_aload_n hx hb dM_square_119 rfl (lv_at hl 4 rfl) ?_
                refine k_get (ci := 8) (C := R_M) (T := T_M) (N := 32) hx hb hts (fun w q => gG_in (inG_M w q)) hown hK hP 27 rfl rfl 3 (by decide) (hts _ (gG_in mw_750)) rfl dM_square_120 ?_
                refine ki_mul hx hb dM_square_123 ?_
                refine lv_aload_n hx hb dM_square_124 rfl (lv_at hl 4 rfl) ?_
                refine k_get (ci := 8) (C := R_M) (T := T_M) (N := 32) hx hb hts (fun w q => gG_in (inG_M w q)) hown hK hP 27 rfl rfl 3 (by decide) (hts _ (gG_in mw_750)) rfl dM_square_125 ?_
                refine ki_add hx hb dM_square_128 ?_
                obtain ⟨P5, g5, h⟩ := h
                refine kc_sp (As := [.int (iI p2), .int (iI (v3 * (σ 27 3))), .int (iI ((v3 * (σ 27 3)) + (σ 27 3)))]) (rest := []) S (c_M_off l dC dI (tyC kc) (wC ad kc nn) nn σ p2 (v3 * (σ 27 3)) ((v3 * (σ 27 3)) + (σ 27 3)) g5) (cwS 3 hts (gS mw_870 mw_871 mw_10 k_M_off) rfl rfl rfl (by decide +kernel) ⟨Nat.le_of_ble_eq_true rfl, Nat.le_of_ble_eq_true rfl⟩) hK hN hP rfl hl.1 rfl (Nat.le_of_ble_eq_true rfl) dM_square_129 ⟨Nat.zero_le _, Nat.zero_le _⟩ (fun r5 hp => ?_)
                have h := h r5 hp
                refine lv_istore (lv' := [(10, .int (iI r5)), (9, .int (iI r4)), (8, .int (iI v7)), (7, .int (iI v3)), (6, .int (iI v8)), (0, .ref (ad 27)), (1, .int (iI p0)), (2, .int (iI p1)), (3, .int (iI p2))]) hx hb dM_square_132 hl (by decide) rfl (fun ls hl => ?_)
                refine lv_iload hx hb dM_square_134 (lv_at hl 4 rfl) ?_
                refine lv_iload hx hb dM_square_136 (lv_at hl 1 rfl) ?_
                refine lv_iload hx hb dM_square_138 (lv_at hl 1 rfl) ?_
                refine ki_mul hx hb dM_square_140 ?_
                refine lv_iload hx hb dM_square_141 (lv_at hl 0 rfl) ?_
                refine lv_iload hx hb dM_square_143 (lv_at hl 0 rfl) ?_
                refine ki_mul hx hb dM_square_145 ?_
                refine ki_add hx hb dM_square_146 ?_
                obtain ⟨P6, g6, h⟩ := h
                refine kc_sp (As := [.int (iI v8), .int (iI ((r4 * r4) + (r5 * r5)))]) (rest := []) S (c_M_less l dC dI (tyC kc) (wC ad kc nn) nn σ v8 ((r4 * r4) + (r5 * r5)) g6) (cwS 2 hts (gS mw_867 mw_868 mw_10 k_M_less) rfl rfl rfl (by decide +kernel) ⟨Nat.le_of_ble_eq_true rfl, Nat.le_of_ble_eq_true rfl⟩) hK hN hP rfl hl.1 rfl (Nat.le_of_ble_eq_true rfl) dM_square_147 ⟨Nat.zero_le _, Nat.zero_le _⟩ (fun r6 hp => ?_)
                have h := h r6 hp
                refine lv_istore (lv' := [(6, .int (iI r6)), (10, .int (iI r5)), (9, .int (iI r4)), (8, .int (iI v7)), (7, .int (iI v3)), (0, .ref (ad 27)), (1, .int (iI p0)), (2, .int (iI p1)), (3, .int (iI p2))]) hx hb dM_square_150 hl (by decide) rfl (fun ls hl => ?_)
                obtain ⟨v13, ev13⟩ : ∃ z : Int, z = v7 + 1 := ⟨_, rfl⟩
                refine lv_iinc (v := iI v13) (lv' := [(8, .int (iI v13)), (6, .int (iI r6)), (10, .int (iI r5)), (9, .int (iI r4)), (7, .int (iI v3)), (0, .ref (ad 27)), (1, .int (iI p0)), (2, .int (iI p1)), (3, .int (iI p2))]) hx hb dM_square_152 hl (k := 3) rfl (by rw [ev13, ← iI_add]; rfl) (by decide) rfl (fun ls hl => ?_)
                have h := h v13 ev13
                refine lv_goto (tgt := 54) hx hb dM_square_155 (by decide) ?_
                exact ih1 v13 r6 ls (lv_sub hl [0, 4, 1, 5, 6, 7, 8] rfl) h
        exact lW1 k2 0 v4 ls (lv_sub hl [0, 1, 2, 3, 4, 5, 6] rfl) h
  exact lW2 k1 0 v2 ls (lv_sub hl [0, 1, 4, 5, 6, 7] rfl) h
abbrev rm_M_roomAt : Room := { frames := 1, cells := 0, slots := 0, locals := 21 }
set_option maxHeartbeats 4000000 in
set_option maxRecDepth 100000 in
theorem c_M_roomAt (l : Launch) (dC : Nat → ClassId) (dI : Nat → Nat → Nat) (ad : Nat → Nat) (kc : Nat → ClassId) (nn : Nat → Nat) (σ : kM) (p0 : Int) (p1 : Int) (p2 : Int) (p3 : Int) {P : Int → Prop} (h : wp_M_roomAt nn σ p0 p1 p2 p3 P) : kMp l y_M_roomAt ws_M_roomAt rm_M_roomAt (dC, dI) vwC (tyC kc) (wC ad kc nn) nsG σ [.ref (ad 27), .int (iI p0), .int (iI p1), .int (iI p2), .int (iI p3)] P := by
  refine k_enterP (cc := b_M_roomAt) (maxL := 9) (ret := (some .int)) (by decide) rfl (Nat.le_of_ble_eq_true rfl) ?_
  intro p e s m below meth c ls S hr hlocks hP hK hN hl
  generalize ([.ref (ad 27), .int (iI p0), .int (iI p1), .int (iI p2), .int (iI p3)] : List Value).toArray = args at S ⊢
  obtain ⟨hx, hb, hml, hown, hts⟩ := id S
  have hl : lv_has ls 9 [(0, .ref (ad 27)), (1, .int (iI p0)), (2, .int (iI p1)), (3, .int (iI p2)), (4, .int (iI p3))] := hl
  unfold wp_M_roomAt at h
  refine lv_ldc (v := iI 1000000) hx hb hown (hts _ (gG_in mc_877)) dM_roomAt_0 ?_
  refine lv_istore (lv' := [(5, .int (iI 1000000)), (0, .ref (ad 27)), (1, .int (iI p0)), (2, .int (iI p1)), (3, .int (iI p2)), (4, .int (iI p3))]) hx hb dM_roomAt_2 hl (by decide) rfl (fun ls hl => ?_)
  refine lv_iconst (v := iI 0) hx hb dM_roomAt_4 rfl ?_
  refine lv_istore (lv' := [(6, .int (iI 0)), (5, .int (iI 1000000)), (0, .ref (ad 27)), (1, .int (iI p0)), (2, .int (iI p1)), (3, .int (iI p2)), (4, .int (iI p3))]) hx hb dM_roomAt_5 hl (by decide) rfl (fun ls hl => ?_)
  obtain ⟨Pe1, k1, h, hk1⟩ := h
  have xW1 : ∀ (v3 : Int) (v4 : Int) (ls : Array Slot), lv_has ls 9 [(5, .int (iI v4))] → Pe1 v3 v4 → W p l e (headSpec ws_M_roomAt rm_M_roomAt).room s m args below meth c s.heap [] 0 0 (MQ below (kQp P) args s 0 0 (fun _ => False)) (F0 m 80 ls []) := by
    intro v3 v4 ls hl h
    have h := hk1 v3 v4 h
    refine lv_iload hx hb dM_roomAt_80 (lv_at hl 0 rfl) ?_
    exact k_iretP hx hb hr hlocks dM_roomAt_82 h
  have lW1 : ∀ (ki1 : Nat) (v1 : Int) (v2 : Int) (ls : Array Slot), lv_has ls 9 [(6, .int (iI v1)), (5, .int (iI v2)), (0, .ref (ad 27)), (1, .int (iI p0)), (2, .int (iI p1)), (3, .int (iI p2)), (4, .int (iI p3))] → lp_M_roomAt_7 nn p0 p1 p2 p3 σ Pe1 ki1 v1 v2 → W p l e (headSpec ws_M_roomAt rm_M_roomAt).room s m args below meth c s.heap [] 0 0 (MQ below (kQp P) args s 0 0 (fun _ => False)) (F0 m 7 ls []) := by
    intro ki1
    induction ki1 with
    | zero => intro v1 v2 ls hl h; exact h.elim
    | succ ki1 ih1 =>
      intro v1 v2 ls hl h
      have h : lpB_M_roomAt_7 nn p0 p1 p2 p3 σ Pe1 (lp_M_roomAt_7 nn p0 p1 p2 p3 σ Pe1 ki1) v1 v2 := h
      unfold lpB_M_roomAt_7 at h
      refine lv_iload hx hb dM_roomAt_7 (lv_at hl 0 rfl) ?_
      refine lv_aload_n hx hb dM_roomAt_9 rfl (lv_at hl 2 rfl) ?_
      refine k_get (ci := 8) (C := R_M) (T := T_M) (N := 32) hx hb hts (fun w q => gG_in (inG_M w q)) hown hK hP 27 rfl rfl 1 (by decide) (hts _ (gG_in mw_748)) rfl dM_roomAt_10 ?_
      obtain ⟨q1, h⟩ := h
      obtain ⟨q2, h⟩ := h
      obtain ⟨ht, hf⟩ := h
      refine ki_icmp_ge (tgt := 80) hx hb dM_roomAt_13 (by decide) q1 q2 (fun c1 => ?_) (fun c1 => ?_)
      · have h := ht c1
        exact xW1 v1 v2 ls (lv_sub hl [1] rfl) h
      · have h := hf c1
        refine lv_iload_n hx hb dM_roomAt_16 rfl (lv_at hl 3 rfl) ?_
        refine lv_aload_n hx hb dM_roomAt_17 rfl (lv_at hl 2 rfl) ?_
        refine k_get (ci := 8) (C := R_M) (T := T_M) (N := 32) hx hb hts (fun w q => gG_in (inG_M w q)) hown hK hP 27 rfl rfl 3 (by decide) (hts _ (gG_in mw_750)) rfl dM_roomAt_18 ?_
        refine ki_mul hx hb dM_roomAt_21 ?_
        refine lv_iload_n hx hb dM_roomAt_22 rfl (lv_at hl 5 rfl) ?_
        refine lv_iload_n hx hb dM_roomAt_23 rfl (lv_at hl 3 rfl) ?_
        refine ki_sub hx hb dM_roomAt_24 ?_
        refine lv_iload hx hb dM_roomAt_25 (lv_at hl 0 rfl) ?_
        refine ki_mul hx hb dM_roomAt_27 ?_
        refine ki_add hx hb dM_roomAt_28 ?_
        refine ki_nm (fun v5 ev5 => ?_)
        have h := h v5 ev5
        refine lv_istore (lv' := [(7, .int (iI v5)), (6, .int (iI v1)), (5, .int (iI v2)), (0, .ref (ad 27)), (1, .int (iI p0)), (2, .int (iI p1)), (3, .int (iI p2)), (4, .int (iI p3))]) hx hb dM_roomAt_29 hl (by decide) rfl (fun ls hl => ?_)
        refine lv_iload_n hx hb dM_roomAt_31 rfl (lv_at hl 5 rfl) ?_
        refine lv_aload_n hx hb dM_roomAt_32 rfl (lv_at hl 3 rfl) ?_
        refine k_get (ci := 8) (C := R_M) (T := T_M) (N := 32) hx hb hts (fun w q => gG_in (inG_M w q)) hown hK hP 27 rfl rfl 3 (by decide) (hts _ (gG_in mw_750)) rfl dM_roomAt_33 ?_
        refine ki_mul hx hb dM_roomAt_36 ?_
        refine lv_iload hx hb dM_roomAt_37 (lv_at hl 7 rfl) ?_
        refine lv_iload_n hx hb dM_roomAt_39 rfl (lv_at hl 5 rfl) ?_
        refine ki_sub hx hb dM_roomAt_40 ?_
        refine lv_iload hx hb dM_roomAt_41 (lv_at hl 1 rfl) ?_
        refine ki_mul hx hb dM_roomAt_43 ?_
        refine ki_add hx hb dM_roomAt_44 ?_
        refine ki_nm (fun v6 ev6 => ?_)
        have h := h v6 ev6
        refine lv_istore (lv' := [(8, .int (iI v6)), (7, .int (iI v5)), (6, .int (iI v1)), (5, .int (iI v2)), (0, .ref (ad 27)), (1, .int (iI p0)), (2, .int (iI p1)), (3, .int (iI p2)), (4, .int (iI p3))]) hx hb dM_roomAt_45 hl (by decide) rfl (fun ls hl => ?_)
        refine lv_iload hx hb dM_roomAt_47 (lv_at hl 3 rfl) ?_
        refine lv_aload_n hx hb dM_roomAt_49 rfl (lv_at hl 4 rfl) ?_
        refine k_get (ci := 8) (C := R_M) (T := T_M) (N := 32) hx hb hts (fun w q => gG_in (inG_M w q)) hown hK hP 27 rfl rfl 5 (by decide) (hts _ (gG_in mw_752)) rfl dM_roomAt_50 ?_
        refine lv_sipush (v := iI 961) hx hb dM_roomAt_53 (by decide) ?_
        refine lv_iload hx hb dM_roomAt_56 (lv_at hl 2 rfl) ?_
        refine ki_mul hx hb dM_roomAt_58 ?_
        refine lv_bipush (v := iI 31) hx hb dM_roomAt_59 (by decide) ?_
        refine lv_iload hx hb dM_roomAt_61 (lv_at hl 0 rfl) ?_
        refine ki_mul hx hb dM_roomAt_63 ?_
        refine ki_add hx hb dM_roomAt_64 ?_
        refine lv_iload hx hb dM_roomAt_65 (lv_at hl 1 rfl) ?_
        refine ki_add hx hb dM_roomAt_67 ?_
        obtain ⟨q3, h⟩ := h
        refine k_iald hx hb hK hP 29 20 (σ 29) rfl rfl q3 dM_roomAt_68 ?_
        obtain ⟨P1, g1, h⟩ := h
        refine kc_sp (As := [.int (iI v2), .int (iI (σ 29 (((961 * v1) + (31 * v6)) + v5).toNat))]) (rest := []) S (c_M_less l dC dI (tyC kc) (wC ad kc nn) nn σ v2 (σ 29 (((961 * v1) + (31 * v6)) + v5).toNat) g1) (cwS 2 hts (gS mw_867 mw_868 mw_10 k_M_less) rfl rfl rfl (by decide +kernel) ⟨Nat.le_of_ble_eq_true rfl, Nat.le_of_ble_eq_true rfl⟩) hK hN hP rfl hl.1 rfl (Nat.le_of_ble_eq_true rfl) dM_roomAt_69 ⟨Nat.zero_le _, Nat.zero_le _⟩ (fun r1 hp => ?_)
        have h := h r1 hp
        refine lv_istore (lv' := [(5, .int (iI r1)), (8, .int (iI v6)), (7, .int (iI v5)), (6, .int (iI v1)), (0, .ref (ad 27)), (1, .int (iI p0)), (2, .int (iI p1)), (3, .int (iI p2)), (4, .int (iI p3))]) hx hb dM_roomAt_72 hl (by decide) rfl (fun ls hl => ?_)
        obtain ⟨v7, ev7⟩ : ∃ z : Int, z = v1 + 1 := ⟨_, rfl⟩
        refine lv_iinc (v := iI v7) (lv' := [(6, .int (iI v7)), (5, .int (iI r1)), (8, .int (iI v6)), (7, .int (iI v5)), (0, .ref (ad 27)), (1, .int (iI p0)), (2, .int (iI p1)), (3, .int (iI p2)), (4, .int (iI p3))]) hx hb dM_roomAt_74 hl (k := 3) rfl (by rw [ev7, ← iI_add]; rfl) (by decide) rfl (fun ls hl => ?_)
        have h := h v7 ev7
        refine lv_goto (tgt := 7) hx hb dM_roomAt_77 (by decide) ?_
        exact ih1 v7 r1 ls (lv_sub hl [0, 1, 4, 5, 6, 7, 8] rfl) h
  exact lW1 k1 0 1000000 ls (lv_sub hl [0, 1, 2, 3, 4, 5, 6] rfl) h
abbrev rm_M_know : Room := { frames := 2, cells := 0, slots := 0, locals := 52 }
set_option maxHeartbeats 4000000 in
set_option maxRecDepth 100000 in
theorem c_M_know (l : Launch) (dC : Nat → ClassId) (dI : Nat → Nat → Nat) (ad : Nat → Nat) (kc : Nat → ClassId) (nn : Nat → Nat) (σ : kM) {P : kM → Prop} (h : wp_M_know nn σ P) : kMv l y_M_know ws_M_know rm_M_know (dC, dI) vwC (tyC kc) (wC ad kc nn) nsG σ [.ref (ad 27)] P := by
  intro sz
  refine k_enter (cc := b_M_know) (maxL := 8) (ret := none) (by decide) rfl (Nat.le_of_ble_eq_true rfl) ?_
  intro p e s m below meth c ls S hr hlocks hsz hA hW hK hN hl
  generalize va_A ((wC ad kc nn) σ) sz = A at hA hW ⊢
  generalize ([.ref (ad 27)] : List Value).toArray = args at S ⊢
  obtain ⟨hx, hb, hml, hown, hts⟩ := id S
  have hl : lv_has ls 8 [(0, .ref (ad 27))] := hl
  unfold wp_M_know at h
  refine lv_aload_n hx hb dM_know_0 rfl (lv_at hl 0 rfl) ?_
  refine k_get (ci := 8) (C := R_M) (T := T_M) (N := 32) hx hb hts (fun w q => gG_in (inG_M w q)) hown hK hW.1 27 rfl rfl 6 (by decide) (hts _ (gG_in mw_753)) rfl dM_know_1 ?_
  obtain ⟨q1, h⟩ := h
  obtain ⟨ht, hf⟩ := h
  refine ki_if_eq (tgt := 8) hx hb dM_know_4 (by decide) q1 (fun c1 => ?_) (fun c1 => ?_)
  · have h := ht c1
    refine lv_iconst (v := iI 0) hx hb dM_know_8 rfl ?_
    refine lv_istore_n (lv' := [(1, .int (iI 0)), (0, .ref (ad 27))]) hx hb dM_know_9 rfl hl (by decide) rfl (fun ls hl => ?_)
    obtain ⟨Pe1, k1, h, hk1⟩ := h
    have xW2 : ∀ (v2 : Int) (s2 : kM) (H : Heap) (locs : List Loc) (ls : Array Slot), kW (dC, dI) vwC A s.heap (wC ad kc nn s2) H locs → lv_has ls 8 [(0, .ref (ad 27))] → Pe1 v2 s2 → W p l e (headSpec ws_M_know rm_M_know).room s m args below meth c H locs 0 0 (MQ below (kQv (dC, dI) vwC (wC ad kc nn) P A) args s 0 0 A) (F0 m 90 ls []) := by
      intro v2 s2 H locs ls hW hl h
      have h := hk1 v2 s2 h
      refine lv_aload_n hx hb dM_know_90 rfl (lv_at hl 0 rfl) ?_
      refine lv_iconst (v := iI (-1)) hx hb dM_know_91 rfl ?_
      obtain ⟨s3, es3⟩ : ∃ z : kM, z = va_up s2 27 (va_up (s2 27) 7 (-1)) := ⟨_, rfl⟩
      refine k_put (ty := .int) (ws' := wC ad kc nn s3) (ci := 8) (C := R_M) (T := T_M) (N := 32) hx hb hts (fun w q => gG_in (inG_M w q)) ty_M tk_M nm_M hown hK hW 27 rfl rfl 7 (by decide) (hts _ (gG_in mw_754)) rfl (by decide +kernel) rfl rfl (Nat.le_of_ble_eq_true rfl) (by rw [es3]; exact wC_p27_7 ..) dM_know_92 (fun H locs hW => ?_)
      have h := h s3 es3
      refine lv_aload_n hx hb dM_know_95 rfl (lv_at hl 0 rfl) ?_
      refine k_get (ci := 8) (C := R_M) (T := T_M) (N := 32) hx hb hts (fun w q => gG_in (inG_M w q)) hown hK hW.1 27 rfl rfl 2 (by decide) (hts _ (gG_in mw_749)) rfl dM_know_96 ?_
      refine lv_iconst (v := iI 1) hx hb dM_know_99 rfl ?_
      refine ki_add hx hb dM_know_100 ?_
      refine ki_nm (fun v3 ev3 => ?_)
      have h := h v3 ev3
      refine lv_istore_n (lv' := [(1, .int (iI v3)), (0, .ref (ad 27))]) hx hb dM_know_101 rfl hl (by decide) rfl (fun ls hl => ?_)
      refine lv_iconst (v := iI 0) hx hb dM_know_102 rfl ?_
      refine lv_istore_n (lv' := [(2, .int (iI 0)), (1, .int (iI v3)), (0, .ref (ad 27))]) hx hb dM_know_103 rfl hl (by decide) rfl (fun ls hl => ?_)
      obtain ⟨Pe2, k2, h, hk2⟩ := h
      have xW1 : ∀ (v5 : Int) (s5 : kM) (H : Heap) (locs : List Loc) (ls : Array Slot), kW (dC, dI) vwC A s.heap (wC ad kc nn s5) H locs → lv_has ls 8 [(0, .ref (ad 27))] → Pe2 v5 s5 → W p l e (headSpec ws_M_know rm_M_know).room s m args below meth c H locs 0 0 (MQ below (kQv (dC, dI) vwC (wC ad kc nn) P A) args s 0 0 A) (F0 m 209 ls []) := by
        intro v5 s5 H locs ls hW hl h
        have h := hk2 v5 s5 h
        refine lv_aload_n hx hb dM_know_209 rfl (lv_at hl 0 rfl) ?_
        refine lv_iconst (v := iI 1) hx hb dM_know_210 rfl ?_
        obtain ⟨s6, es6⟩ : ∃ z : kM, z = va_up s5 27 (va_up (s5 27) 6 1) := ⟨_, rfl⟩
        refine k_put (ty := .boolean) (ws' := wC ad kc nn s6) (ci := 8) (C := R_M) (T := T_M) (N := 32) hx hb hts (fun w q => gG_in (inG_M w q)) ty_M tk_M nm_M hown hK hW 27 rfl rfl 6 (by decide) (hts _ (gG_in mw_753)) rfl (by decide +kernel) (narZ (by decide)) (fitZ (by decide)) (Nat.le_of_ble_eq_true rfl) (by rw [es6]; exact wC_p27_6 ..) dM_know_211 (fun H locs hW => ?_)
        have h := h s6 es6
        exact k_vret hx hb hr hlocks hW dM_know_214 h
      have lW1 : ∀ (ki1 : Nat) (v4 : Int) (s4 : kM) (H : Heap) (locs : List Loc) (ls : Array Slot), kW (dC, dI) vwC A s.heap (wC ad kc nn s4) H locs → lv_has ls 8 [(2, .int (iI v4)), (1, .int (iI v3)), (0, .ref (ad 27))] → lp_M_know_104 nn v3 Pe2 ki1 v4 s4 → W p l e (headSpec ws_M_know rm_M_know).room s m args below meth c H locs 0 0 (MQ below (kQv (dC, dI) vwC (wC ad kc nn) P A) args s 0 0 A) (F0 m 104 ls []) := by
        intro ki1
        induction ki1 with
        | zero => intro v4 s4 H locs ls hW hl h; exact h.elim
        | succ ki1 ih1 =>
          intro v4 s4 H locs ls hW hl h
          have h : lpB_M_know_104 nn v3 Pe2 (lp_M_know_104 nn v3 Pe2 ki1) v4 s4 := h
          unfold lpB_M_know_104 at h
          refine lv_iload_n hx hb dM_know_104 rfl (lv_at hl 0 rfl) ?_
          refine lv_iload_n hx hb dM_know_105 rfl (lv_at hl 1 rfl) ?_
          refine lv_iload_n hx hb dM_know_106 rfl (lv_at hl 1 rfl) ?_
          refine ki_mul hx hb dM_know_107 ?_
          refine lv_iload_n hx hb dM_know_108 rfl (lv_at hl 1 rfl) ?_
          refine ki_mul hx hb dM_know_109 ?_
          refine lv_iload_n hx hb dM_know_110 rfl (lv_at hl 1 rfl) ?_
          refine ki_mul hx hb dM_know_111 ?_
          obtain ⟨q2, h⟩ := h
          obtain ⟨q3, h⟩ := h
          obtain ⟨ht, hf⟩ := h
          refine ki_icmp_ge (tgt := 209) hx hb dM_know_112 (by decide) q2 q3 (fun c2 => ?_) (fun c2 => ?_)
          · have h := ht c2
            exact xW1 v4 s4 _ _ ls hW (lv_sub hl [2] rfl) h
          · have h := hf c2
            refine lv_iload_n hx hb dM_know_115 rfl (lv_at hl 0 rfl) ?_
            refine lv_iload_n hx hb dM_know_116 rfl (lv_at hl 1 rfl) ?_
            obtain ⟨q4, h⟩ := h
            refine ki_rem hx hb dM_know_117 q4 ?_
            refine ki_nm (fun v6 ev6 => ?_)
            have h := h v6 ev6
            refine lv_istore_n (lv' := [(3, .int (iI v6)), (2, .int (iI v4)), (1, .int (iI v3)), (0, .ref (ad 27))]) hx hb dM_know_118 rfl hl (by decide) rfl (fun ls hl => ?_)
            refine lv_iload_n hx hb dM_know_119 rfl (lv_at hl 1 rfl) ?_
            refine lv_iload_n hx hb dM_know_120 rfl (lv_at hl 2 rfl) ?_
            obtain ⟨q5, h⟩ := h
            refine ki_div hx hb dM_know_121 q5 ?_
            refine lv_iload_n hx hb dM_know_122 rfl (lv_at hl 2 rfl) ?_
            obtain ⟨q6, h⟩ := h
            refine ki_rem hx hb dM_know_123 q6 ?_
            refine ki_nm (fun v7 ev7 => ?_)
            have h := h v7 ev7
            refine lv_istore (lv' := [(4, .int (iI v7)), (3, .int (iI v6)), (2, .int (iI v4)), (1, .int (iI v3)), (0, .ref (ad 27))]) hx hb dM_know_124 hl (by decide) rfl (fun ls hl => ?_)
            refine lv_iload_n hx hb dM_know_126 rfl (lv_at hl 2 rfl) ?_
            refine lv_iload_n hx hb dM_know_127 rfl (lv_at hl 3 rfl) ?_
            obtain ⟨q7, h⟩ := h
            refine ki_div hx hb dM_know_128 q7 ?_
            refine lv_iload_n hx hb dM_know_129 rfl (lv_at hl 3 rfl) ?_
            obtain ⟨q8, h⟩ := h
            refine ki_div hx hb dM_know_130 q8 ?_
            refine lv_iload_n hx hb dM_know_131 rfl (lv_at hl 3 rfl) ?_
            obtain ⟨q9, h⟩ := h
            refine ki_rem hx hb dM_know_132 q9 ?_
            refine ki_nm (fun v8 ev8 => ?_)
            have h := h v8 ev8
            refine lv_istore (lv' := [(5, .int (iI v8)), (4, .int (iI v7)), (3, .int (iI v6)), (2, .int (iI v4)), (1, .int (iI v3)), (0, .ref (ad 27))]) hx hb dM_know_133 hl (by decide) rfl (fun ls hl => ?_)
            refine lv_iload_n hx hb dM_know_135 rfl (lv_at hl 3 rfl) ?_
            refine lv_iload_n hx hb dM_know_136 rfl (lv_at hl 4 rfl) ?_
            obtain ⟨q10, h⟩ := h
            refine ki_div hx hb dM_know_137 q10 ?_
            refine lv_iload_n hx hb dM_know_138 rfl (lv_at hl 4 rfl) ?_
            obtain ⟨q11, h⟩ := h
            refine ki_div hx hb dM_know_139 q11 ?_
            refine lv_iload_n hx hb dM_know_140 rfl (lv_at hl 4 rfl) ?_
            obtain ⟨q12, h⟩ := h
            refine ki_div hx hb dM_know_141 q12 ?_
            refine ki_nm (fun v9 ev9 => ?_)
            have h := h v9 ev9
            refine lv_istore (lv' := [(6, .int (iI v9)), (5, .int (iI v8)), (4, .int (iI v7)), (3, .int (iI v6)), (2, .int (iI v4)), (1, .int (iI v3)), (0, .ref (ad 27))]) hx hb dM_know_142 hl (by decide) rfl (fun ls hl => ?_)
            refine lv_aload_n hx hb dM_know_144 rfl (lv_at hl 6 rfl) ?_
            refine lv_iload hx hb dM_know_145 (lv_at hl 0 rfl) ?_
            refine lv_iload hx hb dM_know_147 (lv_at hl 1 rfl) ?_
            refine lv_iload hx hb dM_know_149 (lv_at hl 2 rfl) ?_
            refine lv_iload_n hx hb dM_know_151 rfl (lv_at hl 3 rfl) ?_
            obtain ⟨P1, g1, h⟩ := h
            refine kc_vp (As := [.int (iI v9), .int (iI v8), .int (iI v7), .int (iI v6)]) (rest := []) (ci := 8) (q0 := 27) S (c_M_roomAt l dC dI ad kc nn s4 v9 v8 v7 v6 g1) (cwV 4 hts (gV mw_873 mw_875 ps_19 mw_10 k_M_roomAt) rfl rfl rfl (by decide +kernel) ⟨Nat.le_of_ble_eq_true rfl, Nat.le_of_ble_eq_true rfl⟩) hK hN hW.1 rfl rfl rfl hl.1 rfl (Nat.le_of_ble_eq_true rfl) dM_know_152 ⟨Nat.zero_le _, Nat.zero_le _⟩ (fun r1 hp => ?_)
            have h := h r1 hp
            refine lv_istore (lv' := [(7, .int (iI r1)), (6, .int (iI v9)), (5, .int (iI v8)), (4, .int (iI v7)), (3, .int (iI v6)), (2, .int (iI v4)), (1, .int (iI v3)), (0, .ref (ad 27))]) hx hb dM_know_155 hl (by decide) rfl (fun ls hl => ?_)
            refine lv_iload hx hb dM_know_157 (lv_at hl 0 rfl) ?_
            refine lv_aload_n hx hb dM_know_159 rfl (lv_at hl 7 rfl) ?_
            refine k_get (ci := 8) (C := R_M) (T := T_M) (N := 32) hx hb hts (fun w q => gG_in (inG_M w q)) hown hK hW.1 27 rfl rfl 7 (by decide) (hts _ (gG_in mw_754)) rfl dM_know_160 ?_
            obtain ⟨q13, h⟩ := h
            obtain ⟨q14, h⟩ := h
            obtain ⟨ht, hf⟩ := h
            refine ki_icmp_le (tgt := 203) hx hb dM_know_163 (by decide) q13 q14 (fun c3 => ?_) (fun c3 => ?_)
            · have h := ht c3
              obtain ⟨v10, ev10⟩ : ∃ z : Int, z = v4 + 1 := ⟨_, rfl⟩
              refine lv_iinc (v := iI v10) (lv' := [(2, .int (iI v10)), (7, .int (iI r1)), (6, .int (iI v9)), (5, .int (iI v8)), (4, .int (iI v7)), (3, .int (iI v6)), (1, .int (iI v3)), (0, .ref (ad 27))]) hx hb dM_know_203 hl (k := 5) rfl (by rw [ev10, ← iI_add]; rfl) (by decide) rfl (fun ls hl => ?_)
              have h := h v10 ev10
              refine lv_goto (tgt := 104) hx hb dM_know_206 (by decide) ?_
              exact ih1 v10 s4 _ _ ls hW (lv_sub hl [0, 6, 7] rfl) h
            · have h := hf c3
              refine lv_aload_n hx hb dM_know_166 rfl (lv_at hl 7 rfl) ?_
              refine lv_iload hx hb dM_know_167 (lv_at hl 0 rfl) ?_
              obtain ⟨s7, es7⟩ : ∃ z : kM, z = va_up s4 27 (va_up (s4 27) 7 r1) := ⟨_, rfl⟩
              refine k_put (ty := .int) (ws' := wC ad kc nn s7) (ci := 8) (C := R_M) (T := T_M) (N := 32) hx hb hts (fun w q => gG_in (inG_M w q)) ty_M tk_M nm_M hown hK hW 27 rfl rfl 7 (by decide) (hts _ (gG_in mw_754)) rfl (by decide +kernel) rfl rfl (Nat.le_of_ble_eq_true rfl) (by rw [es7]; exact wC_p27_7 ..) dM_know_169 (fun H locs hW => ?_)
              have h := h s7 es7
              refine lv_aload_n hx hb dM_know_172 rfl (lv_at hl 7 rfl) ?_
              refine k_get (ci := 8) (C := R_M) (T := T_M) (N := 32) hx hb hts (fun w q => gG_in (inG_M w q)) hown hK hW.1 27 rfl rfl 8 (by decide) (hts _ (gG_in mw_755)) rfl dM_know_173 ?_
              refine lv_iconst (v := iI 0) hx hb dM_know_176 rfl ?_
              refine lv_iload hx hb dM_know_177 (lv_at hl 1 rfl) ?_
              obtain ⟨s8, es8⟩ : ∃ z : kM, z = va_up s7 30 (va_up (s7 30) 0 v9) := ⟨_, rfl⟩
              refine k_iast (ws' := wC ad kc nn s8) hx hb hK hW 30 21 (s7 30) rfl rfl ⟨by decide, by decide, by decide⟩ (by rw [es8]; exact wC_a30 ..) dM_know_179 (fun H locs hW => ?_)
              have h := h s8 es8
              refine lv_aload_n hx hb dM_know_180 rfl (lv_at hl 7 rfl) ?_
              refine k_get (ci := 8) (C := R_M) (T := T_M) (N := 32) hx hb hts (fun w q => gG_in (inG_M w q)) hown hK hW.1 27 rfl rfl 8 (by decide) (hts _ (gG_in mw_755)) rfl dM_know_181 ?_
              refine lv_iconst (v := iI 1) hx hb dM_know_184 rfl ?_
              refine lv_iload hx hb dM_know_185 (lv_at hl 2 rfl) ?_
              obtain ⟨s9, es9⟩ : ∃ z : kM, z = va_up s8 30 (va_up (s8 30) 1 v8) := ⟨_, rfl⟩
              refine k_iast (ws' := wC ad kc nn s9) hx hb hK hW 30 21 (s8 30) rfl rfl ⟨by decide, by decide, by decide⟩ (by rw [es9]; exact wC_a30 ..) dM_know_187 (fun H locs hW => ?_)
              have h := h s9 es9
              refine lv_aload_n hx hb dM_know_188 rfl (lv_at hl 7 rfl) ?_
              refine k_get (ci := 8) (C := R_M) (T := T_M) (N := 32) hx hb hts (fun w q => gG_in (inG_M w q)) hown hK hW.1 27 rfl rfl 8 (by decide) (hts _ (gG_in mw_755)) rfl dM_know_189 ?_
              refine lv_iconst (v := iI 2) hx hb dM_know_192 rfl ?_
              refine lv_iload hx hb dM_know_193 (lv_at hl 3 rfl) ?_
              obtain ⟨s10, es10⟩ : ∃ z : kM, z = va_up s9 30 (va_up (s9 30) 2 v7) := ⟨_, rfl⟩
              refine k_iast (ws' := wC ad kc nn s10) hx hb hK hW 30 21 (s9 30) rfl rfl ⟨by decide, by decide, by decide⟩ (by rw [es10]; exact wC_a30 ..) dM_know_195 (fun H locs hW => ?_)
              have h := h s10 es10
              refine lv_aload_n hx hb dM_know_196 rfl (lv_at hl 7 rfl) ?_
              refine k_get (ci := 8) (C := R_M) (T := T_M) (N := 32) hx hb hts (fun w q => gG_in (inG_M w q)) hown hK hW.1 27 rfl rfl 8 (by decide) (hts _ (gG_in mw_755)) rfl dM_know_197 ?_
              refine lv_iconst (v := iI 3) hx hb dM_know_200 rfl ?_
              refine lv_iload_n hx hb dM_know_201 rfl (lv_at hl 4 rfl) ?_
              obtain ⟨s11, es11⟩ : ∃ z : kM, z = va_up s10 30 (va_up (s10 30) 3 v6) := ⟨_, rfl⟩
              refine k_iast (ws' := wC ad kc nn s11) hx hb hK hW 30 21 (s10 30) rfl rfl ⟨by decide, by decide, by decide⟩ (by rw [es11]; exact wC_a30 ..) dM_know_202 (fun H locs hW => ?_)
              have h := h s11 es11
              obtain ⟨v11, ev11⟩ : ∃ z : Int, z = v4 + 1 := ⟨_, rfl⟩
              refine lv_iinc (v := iI v11) (lv' := [(2, .int (iI v11)), (7, .int (iI r1)), (6, .int (iI v9)), (5, .int (iI v8)), (4, .int (iI v7)), (3, .int (iI v6)), (1, .int (iI v3)), (0, .ref (ad 27))]) hx hb dM_know_203 hl (k := 5) rfl (by rw [ev11, ← iI_add]; rfl) (by decide) rfl (fun ls hl => ?_)
              have h := h v11 ev11
              refine lv_goto (tgt := 104) hx hb dM_know_206 (by decide) ?_
              exact ih1 v11 s11 _ _ ls hW (lv_sub hl [0, 6, 7] rfl) h
      exact lW1 k2 0 s3 _ _ ls hW (lv_sub hl [0, 1, 2] rfl) h
    have lW4 : ∀ (ki4 : Nat) (v1 : Int) (s1 : kM) (H : Heap) (locs : List Loc) (ls : Array Slot), kW (dC, dI) vwC A s.heap (wC ad kc nn s1) H locs → lv_has ls 8 [(1, .int (iI v1)), (0, .ref (ad 27))] → lp_M_know_10 nn Pe1 ki4 v1 s1 → W p l e (headSpec ws_M_know rm_M_know).room s m args below meth c H locs 0 0 (MQ below (kQv (dC, dI) vwC (wC ad kc nn) P A) args s 0 0 A) (F0 m 10 ls []) := by
      intro ki4
      induction ki4 with
      | zero => intro v1 s1 H locs ls hW hl h; exact h.elim
      | succ ki4 ih4 =>
        intro v1 s1 H locs ls hW hl h
        have h : lpB_M_know_10 nn Pe1 (lp_M_know_10 nn Pe1 ki4) v1 s1 := h
        unfold lpB_M_know_10 at h
        refine lv_iload_n hx hb dM_know_10 rfl (lv_at hl 0 rfl) ?_
        refine lv_aload_n hx hb dM_know_11 rfl (lv_at hl 1 rfl) ?_
        refine k_get (ci := 8) (C := R_M) (T := T_M) (N := 32) hx hb hts (fun w q => gG_in (inG_M w q)) hown hK hW.1 27 rfl rfl 1 (by decide) (hts _ (gG_in mw_748)) rfl dM_know_12 ?_
        obtain ⟨q15, h⟩ := h
        obtain ⟨q16, h⟩ := h
        obtain ⟨ht, hf⟩ := h
        refine ki_icmp_ge (tgt := 90) hx hb dM_know_15 (by decide) q15 q16 (fun c4 => ?_) (fun c4 => ?_)
        · have h := ht c4
          exact xW2 v1 s1 _ _ ls hW (lv_sub hl [1] rfl) h
        · have h := hf c4
          refine lv_iconst (v := iI 0) hx hb dM_know_18 rfl ?_
          refine lv_istore_n (lv' := [(2, .int (iI 0)), (1, .int (iI v1)), (0, .ref (ad 27))]) hx hb dM_know_19 rfl hl (by decide) rfl (fun ls hl => ?_)
          obtain ⟨Pe3, k3, h, hk3⟩ := h
          have xW3 : ∀ (v13 : Int) (s13 : kM) (H : Heap) (locs : List Loc) (ls : Array Slot), kW (dC, dI) vwC A s.heap (wC ad kc nn s13) H locs → lv_has ls 8 [(1, .int (iI v1)), (0, .ref (ad 27))] → Pe3 v13 s13 → W p l e (headSpec ws_M_know rm_M_know).room s m args below meth c H locs 0 0 (MQ below (kQv (dC, dI) vwC (wC ad kc nn) P A) args s 0 0 A) (F0 m 84 ls []) := by
            intro v13 s13 H locs ls hW hl h
            have h := hk3 v13 s13 h
            obtain ⟨v14, ev14⟩ : ∃ z : Int, z = v1 + 1 := ⟨_, rfl⟩
            refine lv_iinc (v := iI v14) (lv' := [(1, .int (iI v14)), (0, .ref (ad 27))]) hx hb dM_know_84 hl (k := 0) rfl (by rw [ev14, ← iI_add]; rfl) (by decide) rfl (fun ls hl => ?_)
            have h := h v14 ev14
            refine lv_goto (tgt := 10) hx hb dM_know_87 (by decide) ?_
            exact ih4 v14 s13 _ _ ls hW (lv_sub hl [0, 1] rfl) h
          have lW3 : ∀ (ki3 : Nat) (v12 : Int) (s12 : kM) (H : Heap) (locs : List Loc) (ls : Array Slot), kW (dC, dI) vwC A s.heap (wC ad kc nn s12) H locs → lv_has ls 8 [(2, .int (iI v12)), (1, .int (iI v1)), (0, .ref (ad 27))] → lp_M_know_20 nn v1 Pe3 ki3 v12 s12 → W p l e (headSpec ws_M_know rm_M_know).room s m args below meth c H locs 0 0 (MQ below (kQv (dC, dI) vwC (wC ad kc nn) P A) args s 0 0 A) (F0 m 20 ls []) := by
            intro ki3
            induction ki3 with
            | zero => intro v12 s12 H locs ls hW hl h; exact h.elim
            | succ ki3 ih3 =>
              intro v12 s12 H locs ls hW hl h
              have h : lpB_M_know_20 nn v1 Pe3 (lp_M_know_20 nn v1 Pe3 ki3) v12 s12 := h
              unfold lpB_M_know_20 at h
              refine lv_iload_n hx hb dM_know_20 rfl (lv_at hl 0 rfl) ?_
              refine lv_aload_n hx hb dM_know_21 rfl (lv_at hl 2 rfl) ?_
              refine k_get (ci := 8) (C := R_M) (T := T_M) (N := 32) hx hb hts (fun w q => gG_in (inG_M w q)) hown hK hW.1 27 rfl rfl 2 (by decide) (hts _ (gG_in mw_749)) rfl dM_know_22 ?_
              refine lv_aload_n hx hb dM_know_25 rfl (lv_at hl 2 rfl) ?_
              refine k_get (ci := 8) (C := R_M) (T := T_M) (N := 32) hx hb hts (fun w q => gG_in (inG_M w q)) hown hK hW.1 27 rfl rfl 3 (by decide) (hts _ (gG_in mw_750)) rfl dM_know_26 ?_
              refine ki_mul hx hb dM_know_29 ?_
              obtain ⟨q17, h⟩ := h
              obtain ⟨q18, h⟩ := h
              obtain ⟨ht, hf⟩ := h
              refine ki_icmp_gt (tgt := 84) hx hb dM_know_30 (by decide) q17 q18 (fun c5 => ?_) (fun c5 => ?_)
              · have h := ht c5
                exact xW3 v12 s12 _ _ ls hW (lv_sub hl [1, 2] rfl) h
              · have h := hf c5
                refine lv_iconst (v := iI 0) hx hb dM_know_33 rfl ?_
                refine lv_istore_n (lv' := [(3, .int (iI 0)), (2, .int (iI v12)), (1, .int (iI v1)), (0, .ref (ad 27))]) hx hb dM_know_34 rfl hl (by decide) rfl (fun ls hl => ?_)
                obtain ⟨Pe4, k4, h, hk4⟩ := h
                have xW4 : ∀ (v16 : Int) (s15 : kM) (H : Heap) (locs : List Loc) (ls : Array Slot), kW (dC, dI) vwC A s.heap (wC ad kc nn s15) H locs → lv_has ls 8 [(2, .int (iI v12)), (1, .int (iI v1)), (0, .ref (ad 27))] → Pe4 v16 s15 → W p l e (headSpec ws_M_know rm_M_know).room s m args below meth c H locs 0 0 (MQ below (kQv (dC, dI) vwC (wC ad kc nn) P A) args s 0 0 A) (F0 m 78 ls []) := by
                  intro v16 s15 H locs ls hW hl h
                  have h := hk4 v16 s15 h
                  obtain ⟨v17, ev17⟩ : ∃ z : Int, z = v12 + 1 := ⟨_, rfl⟩
                  refine lv_iinc (v := iI v17) (lv' := [(2, .int (iI v17)), (1, .int (iI v1)), (0, .ref (ad 27))]) hx hb dM_know_78 hl (k := 0) rfl (by rw [ev17, ← iI_add]; rfl) (by decide) rfl (fun ls hl => ?_)
                  have h := h v17 ev17
                  refine lv_goto (tgt := 20) hx hb dM_know_81 (by decide) ?_
                  exact ih3 v17 s15 _ _ ls hW (lv_sub hl [0, 1, 2] rfl) h
                have lW2 : ∀ (ki2 : Nat) (v15 : Int) (s14 : kM) (H : Heap) (locs : List Loc) (ls : Array Slot), kW (dC, dI) vwC A s.heap (wC ad kc nn s14) H locs → lv_has ls 8 [(3, .int (iI v15)), (2, .int (iI v12)), (1, .int (iI v1)), (0, .ref (ad 27))] → lp_M_know_35 nn v1 v12 Pe4 ki2 v15 s14 → W p l e (headSpec ws_M_know rm_M_know).room s m args below meth c H locs 0 0 (MQ below (kQv (dC, dI) vwC (wC ad kc nn) P A) args s 0 0 A) (F0 m 35 ls []) := by
                  intro ki2
                  induction ki2 with
                  | zero => intro v15 s14 H locs ls hW hl h; exact h.elim
                  | succ ki2 ih2 =>
                    intro v15 s14 H locs ls hW hl h
                    have h : lpB_M_know_35 nn v1 v12 Pe4 (lp_M_know_35 nn v1 v12 Pe4 ki2) v15 s14 := h
                    unfold lpB_M_know_35 at h
                    refine lv_iload_n hx hb dM_know_35 rfl (lv_at hl 0 rfl) ?_
                    refine lv_aload_n hx hb dM_know_36 rfl (lv_at hl 3 rfl) ?_
                    refine k_get (ci := 8) (C := R_M) (T := T_M) (N := 32) hx hb hts (fun w q => gG_in (inG_M w q)) hown hK hW.1 27 rfl rfl 2 (by decide) (hts _ (gG_in mw_749)) rfl dM_know_37 ?_
                    refine lv_aload_n hx hb dM_know_40 rfl (lv_at hl 3 rfl) ?_
                    refine k_get (ci := 8) (C := R_M) (T := T_M) (N := 32) hx hb hts (fun w q => gG_in (inG_M w q)) hown hK hW.1 27 rfl rfl 3 (by decide) (hts _ (gG_in mw_750)) rfl dM_know_41 ?_
                    refine ki_mul hx hb dM_know_44 ?_
                    obtain ⟨q19, h⟩ := h
                    obtain ⟨q20, h⟩ := h
                    obtain ⟨ht, hf⟩ := h
                    refine ki_icmp_gt (tgt := 78) hx hb dM_know_45 (by decide) q19 q20 (fun c6 => ?_) (fun c6 => ?_)
                    · have h := ht c6
                      exact xW4 v15 s14 _ _ ls hW (lv_sub hl [1, 2, 3] rfl) h
                    · have h := hf c6
                      refine lv_aload_n hx hb dM_know_48 rfl (lv_at hl 3 rfl) ?_
                      refine k_get (ci := 8) (C := R_M) (T := T_M) (N := 32) hx hb hts (fun w q => gG_in (inG_M w q)) hown hK hW.1 27 rfl rfl 5 (by decide) (hts _ (gG_in mw_752)) rfl dM_know_49 ?_
                      refine lv_sipush (v := iI 961) hx hb dM_know_52 (by decide) ?_
                      refine lv_iload_n hx hb dM_know_55 rfl (lv_at hl 2 rfl) ?_
                      refine ki_mul hx hb dM_know_56 ?_
                      refine lv_bipush (v := iI 31) hx hb dM_know_57 (by decide) ?_
                      refine lv_iload_n hx hb dM_know_59 rfl (lv_at hl 1 rfl) ?_
                      refine ki_mul hx hb dM_know_60 ?_
                      refine ki_add hx hb dM_know_61 ?_
                      refine lv_iload_n hx hb dM_know_62 rfl (lv_at hl 0 rfl) ?_
                      refine ki_add hx hb dM_know_63 ?_
                      refine lv_aload_n hx hb dM_know_64 rfl (lv_at hl 3 rfl) ?_
                      refine lv_iload_n hx hb dM_know_65 rfl (lv_at hl 2 rfl) ?_
                      refine lv_iload_n hx hb dM_know_66 rfl (lv_at hl 0 rfl) ?_
                      refine lv_iload_n hx hb dM_know_67 rfl (lv_at hl 1 rfl) ?_
                      obtain ⟨P2, g2, h⟩ := h
                      refine kc_vp (As := [.int (iI v1), .int (iI v15), .int (iI v12)]) (rest := [.int (iI (((961 * v1) + (31 * v12)) + v15)), .ref (ad 29)]) (ci := 8) (q0 := 27) S (c_M_square l dC dI ad kc nn s14 v1 v15 v12 g2) (cwV 3 hts (gV mw_863 mw_865 ps_18 mw_10 k_M_square) rfl rfl rfl (by decide +kernel) ⟨Nat.le_of_ble_eq_true rfl, Nat.le_of_ble_eq_true rfl⟩) hK hN hW.1 rfl rfl rfl hl.1 rfl (Nat.le_of_ble_eq_true rfl) dM_know_68 ⟨Nat.zero_le _, Nat.zero_le _⟩ (fun r2 hp => ?_)
                      have h := h r2 hp
                      obtain ⟨q21, h⟩ := h
                      obtain ⟨s16, es16⟩ : ∃ z : kM, z = va_up s14 29 (va_up (s14 29) (((961 * v1) + (31 * v12)) + v15).toNat r2) := ⟨_, rfl⟩
                      refine k_iast (ws' := wC ad kc nn s16) hx hb hK hW 29 20 (s14 29) rfl rfl q21 (by rw [es16]; exact wC_a29 ..) dM_know_71 (fun H locs hW => ?_)
                      have h := h s16 es16
                      obtain ⟨v18, ev18⟩ : ∃ z : Int, z = v15 + 1 := ⟨_, rfl⟩
                      refine lv_iinc (v := iI v18) (lv' := [(3, .int (iI v18)), (2, .int (iI v12)), (1, .int (iI v1)), (0, .ref (ad 27))]) hx hb dM_know_72 hl (k := 0) rfl (by rw [ev18, ← iI_add]; rfl) (by decide) rfl (fun ls hl => ?_)
                      have h := h v18 ev18
                      refine lv_goto (tgt := 35) hx hb dM_know_75 (by decide) ?_
                      exact ih2 v18 s16 _ _ ls hW (lv_sub hl [0, 1, 2, 3] rfl) h
                exact lW2 k4 0 s12 _ _ ls hW (lv_sub hl [0, 1, 2, 3] rfl) h
          exact lW3 k3 0 s1 _ _ ls hW (lv_sub hl [0, 1, 2] rfl) h
    exact lW4 k1 0 σ _ _ ls hW (lv_sub hl [0, 1] rfl) h
  · have h := hf c1
    exact k_vret hx hb hr hlocks hW dM_know_7 h
