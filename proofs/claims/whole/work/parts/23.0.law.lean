set_option maxHeartbeats 4000000 in
set_option maxRecDepth 100000 in
theorem law_0 {p : Program} {l : Launch} {e : Env} {s : State} {m : MethodId} {below : List Frame} {meth : Method} {c : Code} {b L : Nat} {xs : Nat → Int32} {dC : Nat → ClassId} {dI : Nat → Nat → Nat} {ad : Nat → Nat} {kc : Nat → ClassId} {nn : Nat → Nat} (htr : l.stackTraces = false) (S : CallFix p m c code 7 s #[Value.ref b] (Cond.initialized "PeelRibbons" :: gG) R_W) (hX : va_X b L xs s s.heap) (hbl : b < s.heap.size) (hK : va_K (dC, dI) vwC (tyC kc) s) (hN : kNw nsG s) (hst : ∀ (H : Heap) (locs : List Loc), va_S (fun q : Nat => s.heap.size ≤ q) s.heap H locs → kSt s H) (hL : L ≤ 2562) {i : Int} (hi0 : 0 ≤ i) (hi4 : i + 4 < (L : Int)) {c0 s0 : Nat} (hc1 : c0 + 1 ≤ room_1.cells) (hs1 : s0 + 6 ≤ room_1.slots) {σ : kM} {K : kM → Prop} (h : wl_0 nn xs i σ K) {H : Heap} {locs : List Loc} {ls : Array Slot} (hW : kW (dC, dI) vwC (fun q : Nat => s.heap.size ≤ q) s.heap (wC ad kc nn σ) H locs) (hl : lv_has ls 7 [(0, .ref b), (1, .ref (ad 0)), (2, .ref (ad 27)), (3, .ref (ad 26)), (4, .int (iI i))])
    (kK : ∀ (σ' : kM) (H : Heap) (locs : List Loc) (ls : Array Slot), K σ' → kW (dC, dI) vwC (fun q : Nat => s.heap.size ≤ q) s.heap (wC ad kc nn σ') H locs → lv_has ls 7 [(0, .ref b), (1, .ref (ad 0)), (2, .ref (ad 27)), (3, .ref (ad 26)), (4, .int (iI i))] → W p l e room_1 s m #[Value.ref b] below meth c H locs (c0 + 1) (s0 + 6) (lw_Z below #[Value.ref b] s) (F0 m 1251 ls [])) : W p l e room_1 s m #[Value.ref b] below meth c H locs c0 s0 (lw_Z below #[Value.ref b] s) (F0 m 140 ls []) := by
  obtain ⟨hx, hb, hml, hown, hts⟩ := id S
  have hA : ∀ q : Nat, s.heap.size ≤ q → (fun q : Nat => s.heap.size ≤ q) q := fun _ h => h
  have hbA : ¬ (fun q : Nat => s.heap.size ≤ q) b := Nat.not_le.mpr hbl
  have hca : c0 ≤ room_1.cells := by omega
  have hsa : s0 ≤ room_1.slots := by omega
  unfold wl_0 at h
  refine lv_aload_n hx hb dW_law_140 rfl (lv_at hl 1 rfl) ?_
  refine lv_aload_n hx hb dW_law_141 rfl (lv_at hl 0 rfl) ?_
  refine lv_iload hx hb dW_law_142 (lv_at hl 4 rfl) ?_
  refine lv_iconst (v := iI 1) hx hb dW_law_144 rfl ?_
  refine ki_add hx hb dW_law_145 ?_
  refine k_sld hx hb hX hbl hbA hW.2.2 ⟨by omega, by omega, by omega⟩ dW_law_146 ?_
  refine W.eq (g2 := F0 m 147 ls [.int (iI (xI xs (i + 1))), .ref (ad 0)]) rfl ?_
  refine lv_aload_n hx hb dW_law_147 rfl (lv_at hl 0 rfl) ?_
  refine lv_iload hx hb dW_law_148 (lv_at hl 4 rfl) ?_
  refine lv_iconst (v := iI 2) hx hb dW_law_150 rfl ?_
  refine ki_add hx hb dW_law_151 ?_
  refine k_sld hx hb hX hbl hbA hW.2.2 ⟨by omega, by omega, by omega⟩ dW_law_152 ?_
  refine W.eq (g2 := F0 m 153 ls [.int (iI (xI xs (i + 2))), .int (iI (xI xs (i + 1))), .ref (ad 0)]) rfl ?_
  refine lv_aload_n hx hb dW_law_153 rfl (lv_at hl 0 rfl) ?_
  refine lv_iload hx hb dW_law_154 (lv_at hl 4 rfl) ?_
  refine lv_iconst (v := iI 3) hx hb dW_law_156 rfl ?_
  refine ki_add hx hb dW_law_157 ?_
  refine k_sld hx hb hX hbl hbA hW.2.2 ⟨by omega, by omega, by omega⟩ dW_law_158 ?_
  refine W.eq (g2 := F0 m 159 ls [.int (iI (xI xs (i + 3))), .int (iI (xI xs (i + 2))), .int (iI (xI xs (i + 1))), .ref (ad 0)]) rfl ?_
  refine lv_aload_n hx hb dW_law_159 rfl (lv_at hl 0 rfl) ?_
  refine lv_iload hx hb dW_law_160 (lv_at hl 4 rfl) ?_
  refine lv_iconst (v := iI 4) hx hb dW_law_162 rfl ?_
  refine ki_add hx hb dW_law_163 ?_
  refine k_sld hx hb hX hbl hbA hW.2.2 ⟨by omega, by omega, by omega⟩ dW_law_164 ?_
  refine W.eq (g2 := F0 m 165 ls [.int (iI (xI xs (i + 4))), .int (iI (xI xs (i + 3))), .int (iI (xI xs (i + 2))), .int (iI (xI xs (i + 1))), .ref (ad 0)]) rfl ?_
  obtain ⟨q1, h⟩ := h
  have jW3 : ∀ (v1 : Int) (H : Heap) (locs : List Loc) (ls : Array Slot), kW (dC, dI) vwC (fun q : Nat => s.heap.size ≤ q) s.heap (wC ad kc nn σ) H locs → lv_has ls 7 [(0, .ref b), (1, .ref (ad 0)), (2, .ref (ad 27)), (3, .ref (ad 26)), (4, .int (iI i))] → jn_law0_173 nn σ xs i K v1 → W p l e room_1 s m #[Value.ref b] below meth c H locs c0 s0 (lw_Z below #[Value.ref b] s) (F0 m 173 ls [.int (iI v1), .int (iI (xI xs (i + 3))), .int (iI (xI xs (i + 2))), .int (iI (xI xs (i + 1))), .ref (ad 0)]) := by
    intro v1 H locs ls hW hl h
    unfold jn_law0_173 at h
    refine lv_aload_n hx hb dW_law_173 rfl (lv_at hl 3 rfl) ?_
    obtain ⟨P1, g1, h⟩ := h
    refine kc_sh (n := 6) (As := [.ref (ad 0), .int (iI (xI xs (i + 1))), .int (iI (xI xs (i + 2))), .int (iI (xI xs (i + 3))), .int (iI v1), .ref (ad 26)]) (rest := []) S (c_W_cell l htr dC dI ad kc nn σ (xI xs (i + 1)) (xI xs (i + 2)) (xI xs (i + 3)) v1 g1) rfl rfl ⟨Nat.le_of_ble_eq_true rfl, Nat.le_of_ble_eq_true rfl⟩ (gG_good k_W_cell) List.mem_cons_self (hts _ (gG_in mw_319)) (hts _ (gG_in mw_320)) (hts _ (gG_in mw_0)) (by decide +kernel) hK hN (hst H locs hW.2.2) hA hW (fun _ => rfl) rfl hl.1 rfl (Nat.le_of_ble_eq_true rfl) dW_law_174 ⟨hc1, hs1⟩ (fun r1 s1 H locs hp hW => ?_)
    have h := h r1 s1 hp
    refine lv_istore (lv' := [(5, .int (iI r1)), (0, .ref b), (1, .ref (ad 0)), (2, .ref (ad 27)), (3, .ref (ad 26)), (4, .int (iI i))]) hx hb dW_law_177 hl (by decide) rfl (fun ls hl => ?_)
    refine lv_aload_n hx hb dW_law_179 rfl (lv_at hl 3 rfl) ?_
    refine lv_aload_n hx hb dW_law_180 rfl (lv_at hl 1 rfl) ?_
    refine lv_iload hx hb dW_law_181 (lv_at hl 5 rfl) ?_
    refine lv_iconst (v := iI 1) hx hb dW_law_183 rfl ?_
    refine ki_add hx hb dW_law_184 ?_
    refine k_sld hx hb hX hbl hbA hW.2.2 ⟨by omega, by omega, by omega⟩ dW_law_185 ?_
    refine W.eq (g2 := F0 m 186 ls [.int (iI (xI xs (i + 1))), .ref (ad 27)]) rfl ?_
    refine lv_aload_n hx hb dW_law_186 rfl (lv_at hl 1 rfl) ?_
    refine lv_iload hx hb dW_law_187 (lv_at hl 5 rfl) ?_
    refine lv_iconst (v := iI 2) hx hb dW_law_189 rfl ?_
    refine ki_add hx hb dW_law_190 ?_
    refine k_sld hx hb hX hbl hbA hW.2.2 ⟨by omega, by omega, by omega⟩ dW_law_191 ?_
    refine W.eq (g2 := F0 m 192 ls [.int (iI (xI xs (i + 2))), .int (iI (xI xs (i + 1))), .ref (ad 27)]) rfl ?_
    refine lv_aload_n hx hb dW_law_192 rfl (lv_at hl 1 rfl) ?_
    refine lv_iload hx hb dW_law_193 (lv_at hl 5 rfl) ?_
    refine lv_iconst (v := iI 3) hx hb dW_law_195 rfl ?_
    refine ki_add hx hb dW_law_196 ?_
    refine k_sld hx hb hX hbl hbA hW.2.2 ⟨by omega, by omega, by omega⟩ dW_law_197 ?_
    refine W.eq (g2 := F0 m 198 ls [.int (iI (xI xs (i + 3))), .int (iI (xI xs (i + 2))), .int (iI (xI xs (i + 1))), .ref (ad 27)]) rfl ?_
    refine lv_aload_n hx hb dW_law_198 rfl (lv_at hl 1 rfl) ?_
    refine lv_iload hx hb dW_law_199 (lv_at hl 5 rfl) ?_
    refine lv_iconst (v := iI 4) hx hb dW_law_201 rfl ?_
    refine ki_add hx hb dW_law_202 ?_
    refine k_sld hx hb hX hbl hbA hW.2.2 ⟨by omega, by omega, by omega⟩ dW_law_203 ?_
    refine W.eq (g2 := F0 m 204 ls [.int (iI (xI xs (i + 4))), .int (iI (xI xs (i + 3))), .int (iI (xI xs (i + 2))), .int (iI (xI xs (i + 1))), .ref (ad 27)]) rfl ?_
    obtain ⟨q2, h⟩ := h
    have jW2 : ∀ (v2 : Int) (H : Heap) (locs : List Loc) (ls : Array Slot), kW (dC, dI) vwC (fun q : Nat => s.heap.size ≤ q) s.heap (wC ad kc nn s1) H locs → lv_has ls 7 [(5, .int (iI r1)), (0, .ref b), (1, .ref (ad 0)), (2, .ref (ad 27)), (3, .ref (ad 26)), (4, .int (iI i))] → jn_law0_212 nn xs i K r1 s1 v2 → W p l e room_1 s m #[Value.ref b] below meth c H locs (c0 + 1) (s0 + 6) (lw_Z below #[Value.ref b] s) (F0 m 212 ls [.int (iI v2), .int (iI (xI xs (i + 3))), .int (iI (xI xs (i + 2))), .int (iI (xI xs (i + 1))), .ref (ad 27)]) := by
      intro v2 H locs ls hW hl h
      unfold jn_law0_212 at h
      obtain ⟨P2, g2, h⟩ := h
      refine kc_vi (As := [.int (iI (xI xs (i + 1))), .int (iI (xI xs (i + 2))), .int (iI (xI xs (i + 3))), .int (iI v2)]) (rest := []) (ci := 8) (q0 := 27) S (c_M_cell l dC dI ad kc nn s1 (xI xs (i + 1)) (xI xs (i + 2)) (xI xs (i + 3)) v2 g2) (cwV 4 hts (gV mw_848 mw_849 mw_850 mw_10 k_M_cell) rfl rfl rfl (by decide +kernel) ⟨Nat.le_of_ble_eq_true rfl, Nat.le_of_ble_eq_true rfl⟩) hK hN hA hW (fun _ => rfl) rfl rfl rfl hl.1 rfl (Nat.le_of_ble_eq_true rfl) dW_law_212 ⟨hc1, hs1⟩ (fun r2 s2 H locs hp hW => ?_)
      have h := h r2 s2 hp
      refine lv_istore (lv' := [(6, .int (iI r2)), (5, .int (iI r1)), (0, .ref b), (1, .ref (ad 0)), (2, .ref (ad 27)), (3, .ref (ad 26)), (4, .int (iI i))]) hx hb dW_law_215 hl (by decide) rfl (fun ls hl => ?_)
      refine lv_aload_n hx hb dW_law_217 rfl (lv_at hl 4 rfl) ?_
      refine kc_vp (As := []) (rest := []) (ci := 8) (q0 := 27) S (c_M_thrown l dC dI ad kc nn s2 (P := fun r => (s2 27 0) = r) rfl) (cwV 0 hts (gV mw_844 mw_845 mw_846 mw_10 k_M_thrown) rfl rfl rfl (by decide +kernel) ⟨Nat.le_of_ble_eq_true rfl, Nat.le_of_ble_eq_true rfl⟩) hK hN hW.1 rfl rfl rfl hl.1 rfl (Nat.le_of_ble_eq_true rfl) dW_law_218 ⟨hc1, hs1⟩ (fun r3 hp => ?_)
      subst hp
      refine lv_iload hx hb dW_law_221 (lv_at hl 1 rfl) ?_
      obtain ⟨q3, h⟩ := h
      obtain ⟨q4, h⟩ := h
      obtain ⟨ht, hf⟩ := h
      refine ki_icmp_eq (tgt := 228) hx hb dW_law_223 (by decide) q3 q4 (fun c1 => ?_) (fun c1 => ?_)
      · have h := ht c1
        refine lv_iload hx hb dW_law_228 (lv_at hl 1 rfl) ?_
        obtain ⟨q5, h⟩ := h
        obtain ⟨ht, hf⟩ := h
        refine ki_if_ne (tgt := 252) hx hb dW_law_230 (by decide) q5 (fun c2 => ?_) (fun c2 => ?_)
        · have h := ht c2
          refine lv_goto (tgt := 1251) hx hb dW_law_252 (by decide) ?_
          exact kK s2 _ _ ls h hW (lv_sub hl [2, 3, 4, 5, 6] rfl)
        · have h := hf c2
          refine lv_aload_n hx hb dW_law_233 rfl (lv_at hl 5 rfl) ?_
          refine lv_iconst (v := iI 0) hx hb dW_law_234 rfl ?_
          refine k_lald hx hb hK hW.1 26 18 (s2 26) rfl rfl ⟨by decide, by decide, by decide⟩ dW_law_235 ?_
          refine lv_iload hx hb dW_law_236 (lv_at hl 0 rfl) ?_
          obtain ⟨q6, h⟩ := h
          have jW1 : ∀ (v3 : Int) (H : Heap) (locs : List Loc) (ls : Array Slot), kW (dC, dI) vwC (fun q : Nat => s.heap.size ≤ q) s.heap (wC ad kc nn s2) H locs → lv_has ls 7 [(0, .ref b), (1, .ref (ad 0)), (2, .ref (ad 27)), (3, .ref (ad 26)), (4, .int (iI i))] → jn_law0_246 nn K s2 v3 → W p l e room_1 s m #[Value.ref b] below meth c H locs (c0 + 1) (s0 + 6) (lw_Z below #[Value.ref b] s) (F0 m 246 ls [.long (lI v3), .long (lI (s2 26 0))]) := by
            intro v3 H locs ls hW hl h
            unfold jn_law0_246 at h
            obtain ⟨q7, h⟩ := h
            refine kl_cmp hx hb q7.1 q7.2 dW_law_246 ?_
            obtain ⟨ht, hf⟩ := h
            refine ki_if_eq (tgt := 252) hx hb dW_law_247 (by decide) (by constructor <;> (repeat' split) <;> decide) (fun c3 => ?_) (fun c3 => ?_)
            · have h := ht c3
              refine lv_goto (tgt := 1251) hx hb dW_law_252 (by decide) ?_
              exact kK s2 _ _ ls h hW (lv_sub hl [0, 1, 2, 3, 4] rfl)
            · have h := hf c3
              refine lv_iconst (v := iI 0) hx hb dW_law_250 rfl ?_
              exact False.elim h
          obtain ⟨ht, hf⟩ := h
          refine ki_if_eq (tgt := 245) hx hb dW_law_238 (by decide) q6 (fun c4 => ?_) (fun c4 => ?_)
          · have h := ht c4
            refine lv_lconst (v := lI 0) hx hb dW_law_245 (by decide) ?_
            exact jW1 0 _ _ ls hW (lv_sub hl [2, 3, 4, 5, 6] rfl) h
          · have h := hf c4
            refine lv_lconst (v := lI 1) hx hb dW_law_241 (by decide) ?_
            refine lv_goto (tgt := 246) hx hb dW_law_242 (by decide) ?_
            exact jW1 1 _ _ ls hW (lv_sub hl [2, 3, 4, 5, 6] rfl) h
      · have h := hf c1
        refine lv_iconst (v := iI 0) hx hb dW_law_226 rfl ?_
        exact False.elim h
    obtain ⟨ht, hf⟩ := h
    refine ki_if_eq (tgt := 211) hx hb dW_law_204 (by decide) q2 (fun c5 => ?_) (fun c5 => ?_)
    · have h := ht c5
      refine lv_iconst (v := iI 0) hx hb dW_law_211 rfl ?_
      exact jW2 0 _ _ ls hW (lv_sub hl [0, 1, 2, 3, 4, 5] rfl) h
    · have h := hf c5
      refine lv_iconst (v := iI 1) hx hb dW_law_207 rfl ?_
      refine lv_goto (tgt := 212) hx hb dW_law_208 (by decide) ?_
      exact jW2 1 _ _ ls hW (lv_sub hl [0, 1, 2, 3, 4, 5] rfl) h
  obtain ⟨ht, hf⟩ := h
  refine ki_if_eq (tgt := 172) hx hb dW_law_165 (by decide) q1 (fun c6 => ?_) (fun c6 => ?_)
  · have h := ht c6
    refine lv_iconst (v := iI 0) hx hb dW_law_172 rfl ?_
    exact jW3 0 _ _ ls hW (lv_sub hl [0, 1, 2, 3, 4] rfl) h
  · have h := hf c6
    refine lv_iconst (v := iI 1) hx hb dW_law_168 rfl ?_
    refine lv_goto (tgt := 173) hx hb dW_law_169 (by decide) ?_
    exact jW3 1 _ _ ls hW (lv_sub hl [0, 1, 2, 3, 4] rfl) h
set_option maxHeartbeats 4000000 in
set_option maxRecDepth 100000 in
theorem law_1 {p : Program} {l : Launch} {e : Env} {s : State} {m : MethodId} {below : List Frame} {meth : Method} {c : Code} {b L : Nat} {xs : Nat → Int32} {dC : Nat → ClassId} {dI : Nat → Nat → Nat} {ad : Nat → Nat} {kc : Nat → ClassId} {nn : Nat → Nat} (htr : l.stackTraces = false) (S : CallFix p m c code 7 s #[Value.ref b] (Cond.initialized "PeelRibbons" :: gG) R_W) (hX : va_X b L xs s s.heap) (hbl : b < s.heap.size) (hK : va_K (dC, dI) vwC (tyC kc) s) (hN : kNw nsG s) (hst : ∀ (H : Heap) (locs : List Loc), va_S (fun q : Nat => s.heap.size ≤ q) s.heap H locs → kSt s H) (hL : L ≤ 2562) {i : Int} (hi0 : 0 ≤ i) (hi4 : i + 4 < (L : Int)) {c0 s0 : Nat} (hc1 : c0 + 1 ≤ room_1.cells) (hs1 : s0 + 6 ≤ room_1.slots) {σ : kM} {K : kM → Prop} (h : wl_1 nn xs i σ K) {H : Heap} {locs : List Loc} {ls : Array Slot} (hW : kW (dC, dI) vwC (fun q : Nat => s.heap.size ≤ q) s.heap (wC ad kc nn σ) H locs) (hl : lv_has ls 7 [(0, .ref b), (1, .ref (ad 0)), (2, .ref (ad 27)), (3, .ref (ad 26)), (4, .int (iI i))])
    (kK : ∀ (σ' : kM) (H : Heap) (locs : List Loc) (ls : Array Slot), K σ' → kW (dC, dI) vwC (fun q : Nat => s.heap.size ≤ q) s.heap (wC ad kc nn σ') H locs → lv_has ls 7 [(0, .ref b), (1, .ref (ad 0)), (2, .ref (ad 27)), (3, .ref (ad 26)), (4, .int (iI i))] → W p l e room_1 s m #[Value.ref b] below meth c H locs (c0 + 1) (s0 + 6) (lw_Z below #[Value.ref b] s) (F0 m 1251 ls [])) : W p l e room_1 s m #[Value.ref b] below meth c H locs c0 s0 (lw_Z below #[Value.ref b] s) (F0 m 255 ls []) := by
  obtain ⟨hx, hb, hml, hown, hts⟩ := id S
  have hA : ∀ q : Nat, s.heap.size ≤ q → (fun q : Nat => s.heap.size ≤ q) q := fun _ h => h
  have hbA : ¬ (fun q : Nat => s.heap.size ≤ q) b := Nat.not_le.mpr hbl
  have hca : c0 ≤ room_1.cells := by omega
  have hsa : s0 ≤ room_1.slots := by omega
  unfold wl_1 at h
  refine lv_aload_n hx hb dW_law_255 rfl (lv_at hl 1 rfl) ?_
  obtain ⟨P1, g1, h⟩ := h
  refine kc_vi (As := []) (rest := []) (ci := 0) (q0 := 0) S (c_P_room l dC dI ad kc nn σ g1) (cwV 0 hts (gV mw_237 mw_238 mw_239 mw_1 k_P_room) rfl rfl rfl (by decide +kernel) ⟨Nat.le_of_ble_eq_true rfl, Nat.le_of_ble_eq_true rfl⟩) hK hN hA hW (fun _ => rfl) rfl rfl rfl hl.1 rfl (Nat.le_of_ble_eq_true rfl) dW_law_256 ⟨hca, hsa⟩ (fun r1 s1 H locs hp hW => ?_)
  have h := h r1 s1 hp
  refine lv_aload_n hx hb dW_law_259 rfl (lv_at hl 2 rfl) ?_
  obtain ⟨P2, g2, h⟩ := h
  refine kc_vi (As := []) (rest := [.int (iI r1)]) (ci := 8) (q0 := 27) S (c_M_room l dC dI ad kc nn s1 g2) (cwV 0 hts (gV mw_855 mw_856 mw_857 mw_10 k_M_room) rfl rfl rfl (by decide +kernel) ⟨Nat.le_of_ble_eq_true rfl, Nat.le_of_ble_eq_true rfl⟩) hK hN hA hW (fun _ => rfl) rfl rfl rfl hl.1 rfl (Nat.le_of_ble_eq_true rfl) dW_law_260 ⟨hca, hsa⟩ (fun r2 s2 H locs hp hW => ?_)
  have h := h r2 s2 hp
  obtain ⟨q1, h⟩ := h
  obtain ⟨q2, h⟩ := h
  obtain ⟨ht, hf⟩ := h
  refine ki_icmp_eq (tgt := 1251) hx hb dW_law_263 (by decide) q1 q2 (fun c1 => ?_) (fun c1 => ?_)
  · have h := ht c1
    refine W.widen (k := c0 + 1) (n := s0 + 6) (by omega) (by omega) ?_
    exact kK s2 _ _ ls h hW (lv_sub hl [0, 1, 2, 3, 4] rfl)
  · have h := hf c1
    refine lv_iconst (v := iI 0) hx hb dW_law_266 rfl ?_
    exact False.elim h
set_option maxHeartbeats 4000000 in
set_option maxRecDepth 100000 in
theorem law_2 {p : Program} {l : Launch} {e : Env} {s : State} {m : MethodId} {below : List Frame} {meth : Method} {c : Code} {b L : Nat} {xs : Nat → Int32} {dC : Nat → ClassId} {dI : Nat → Nat → Nat} {ad : Nat → Nat} {kc : Nat → ClassId} {nn : Nat → Nat} (htr : l.stackTraces = false) (S : CallFix p m c code 7 s #[Value.ref b] (Cond.initialized "PeelRibbons" :: gG) R_W) (hX : va_X b L xs s s.heap) (hbl : b < s.heap.size) (hK : va_K (dC, dI) vwC (tyC kc) s) (hN : kNw nsG s) (hst : ∀ (H : Heap) (locs : List Loc), va_S (fun q : Nat => s.heap.size ≤ q) s.heap H locs → kSt s H) (hL : L ≤ 2562) {i : Int} (hi0 : 0 ≤ i) (hi4 : i + 4 < (L : Int)) {c0 s0 : Nat} (hc1 : c0 + 1 ≤ room_1.cells) (hs1 : s0 + 6 ≤ room_1.slots) {σ : kM} {K : kM → Prop} (h : wl_2 nn xs i σ K) {H : Heap} {locs : List Loc} {ls : Array Slot} (hW : kW (dC, dI) vwC (fun q : Nat => s.heap.size ≤ q) s.heap (wC ad kc nn σ) H locs) (hl : lv_has ls 7 [(0, .ref b), (1, .ref (ad 0)), (2, .ref (ad 27)), (3, .ref (ad 26)), (4, .int (iI i))])
    (kK : ∀ (σ' : kM) (H : Heap) (locs : List Loc) (ls : Array Slot), K σ' → kW (dC, dI) vwC (fun q : Nat => s.heap.size ≤ q) s.heap (wC ad kc nn σ') H locs → lv_has ls 7 [(0, .ref b), (1, .ref (ad 0)), (2, .ref (ad 27)), (3, .ref (ad 26)), (4, .int (iI i))] → W p l e room_1 s m #[Value.ref b] below meth c H locs (c0 + 1) (s0 + 6) (lw_Z below #[Value.ref b] s) (F0 m 1251 ls [])) : W p l e room_1 s m #[Value.ref b] below meth c H locs c0 s0 (lw_Z below #[Value.ref b] s) (F0 m 268 ls []) := by
  obtain ⟨hx, hb, hml, hown, hts⟩ := id S
  have hA : ∀ q : Nat, s.heap.size ≤ q → (fun q : Nat => s.heap.size ≤ q) q := fun _ h => h
  have hbA : ¬ (fun q : Nat => s.heap.size ≤ q) b := Nat.not_le.mpr hbl
  have hca : c0 ≤ room_1.cells := by omega
  have hsa : s0 ≤ room_1.slots := by omega
  unfold wl_2 at h
  refine lv_aload_n hx hb dW_law_268 rfl (lv_at hl 1 rfl) ?_
  refine lv_aload_n hx hb dW_law_269 rfl (lv_at hl 0 rfl) ?_
  refine lv_iload hx hb dW_law_270 (lv_at hl 4 rfl) ?_
  refine lv_iconst (v := iI 1) hx hb dW_law_272 rfl ?_
  refine ki_add hx hb dW_law_273 ?_
  refine k_sld hx hb hX hbl hbA hW.2.2 ⟨by omega, by omega, by omega⟩ dW_law_274 ?_
  refine W.eq (g2 := F0 m 275 ls [.int (iI (xI xs (i + 1))), .ref (ad 0)]) rfl ?_
  refine lv_aload_n hx hb dW_law_275 rfl (lv_at hl 3 rfl) ?_
  obtain ⟨P1, g1, h⟩ := h
  refine kc_sh (n := 3) (As := [.ref (ad 0), .int (iI (xI xs (i + 1))), .ref (ad 26)]) (rest := []) S (c_W_axis l htr dC dI ad kc nn σ (xI xs (i + 1)) g1) rfl rfl ⟨Nat.le_of_ble_eq_true rfl, Nat.le_of_ble_eq_true rfl⟩ (gG_good k_W_axis) List.mem_cons_self (hts _ (gG_in mw_418)) (hts _ (gG_in mw_419)) (hts _ (gG_in mw_0)) (by decide +kernel) hK hN (hst H locs hW.2.2) hA hW (fun _ => rfl) rfl hl.1 rfl (Nat.le_of_ble_eq_true rfl) dW_law_276 ⟨hc1, hs1⟩ (fun r1 s1 H locs hp hW => ?_)
  have h := h r1 s1 hp
  refine lv_istore (lv' := [(5, .int (iI r1)), (0, .ref b), (1, .ref (ad 0)), (2, .ref (ad 27)), (3, .ref (ad 26)), (4, .int (iI i))]) hx hb dW_law_279 hl (by decide) rfl (fun ls hl => ?_)
  refine lv_aload_n hx hb dW_law_281 rfl (lv_at hl 3 rfl) ?_
  refine lv_aload_n hx hb dW_law_282 rfl (lv_at hl 1 rfl) ?_
  refine lv_iload hx hb dW_law_283 (lv_at hl 5 rfl) ?_
  refine lv_iconst (v := iI 1) hx hb dW_law_285 rfl ?_
  refine ki_add hx hb dW_law_286 ?_
  refine k_sld hx hb hX hbl hbA hW.2.2 ⟨by omega, by omega, by omega⟩ dW_law_287 ?_
  refine W.eq (g2 := F0 m 288 ls [.int (iI (xI xs (i + 1))), .ref (ad 27)]) rfl ?_
  obtain ⟨P2, g2, h⟩ := h
  refine kc_vi (As := [.int (iI (xI xs (i + 1)))]) (rest := []) (ci := 8) (q0 := 27) S (c_M_axis l dC dI ad kc nn s1 (xI xs (i + 1)) g2) (cwV 1 hts (gV mw_878 mw_879 mw_880 mw_10 k_M_axis) rfl rfl rfl (by decide +kernel) ⟨Nat.le_of_ble_eq_true rfl, Nat.le_of_ble_eq_true rfl⟩) hK hN hA hW (fun _ => rfl) rfl rfl rfl hl.1 rfl (Nat.le_of_ble_eq_true rfl) dW_law_288 ⟨hc1, hs1⟩ (fun r2 s2 H locs hp hW => ?_)
  have h := h r2 s2 hp
  refine lv_istore (lv' := [(6, .int (iI r2)), (5, .int (iI r1)), (0, .ref b), (1, .ref (ad 0)), (2, .ref (ad 27)), (3, .ref (ad 26)), (4, .int (iI i))]) hx hb dW_law_291 hl (by decide) rfl (fun ls hl => ?_)
  refine lv_aload_n hx hb dW_law_293 rfl (lv_at hl 4 rfl) ?_
  refine kc_vp (As := []) (rest := []) (ci := 8) (q0 := 27) S (c_M_thrown l dC dI ad kc nn s2 (P := fun r => (s2 27 0) = r) rfl) (cwV 0 hts (gV mw_844 mw_845 mw_846 mw_10 k_M_thrown) rfl rfl rfl (by decide +kernel) ⟨Nat.le_of_ble_eq_true rfl, Nat.le_of_ble_eq_true rfl⟩) hK hN hW.1 rfl rfl rfl hl.1 rfl (Nat.le_of_ble_eq_true rfl) dW_law_294 ⟨hc1, hs1⟩ (fun r3 hp => ?_)
  subst hp
  refine lv_iload hx hb dW_law_297 (lv_at hl 1 rfl) ?_
  obtain ⟨q1, h⟩ := h
  obtain ⟨q2, h⟩ := h
  obtain ⟨ht, hf⟩ := h
  refine ki_icmp_eq (tgt := 304) hx hb dW_law_299 (by decide) q1 q2 (fun c1 => ?_) (fun c1 => ?_)
  · have h := ht c1
    refine lv_iload hx hb dW_law_304 (lv_at hl 1 rfl) ?_
    obtain ⟨q3, h⟩ := h
    obtain ⟨ht, hf⟩ := h
    refine ki_if_ne (tgt := 321) hx hb dW_law_306 (by decide) q3 (fun c2 => ?_) (fun c2 => ?_)
    · have h := ht c2
      refine lv_goto (tgt := 1251) hx hb dW_law_321 (by decide) ?_
      exact kK s2 _ _ ls h hW (lv_sub hl [2, 3, 4, 5, 6] rfl)
    · have h := hf c2
      refine lv_aload_n hx hb dW_law_309 rfl (lv_at hl 5 rfl) ?_
      refine lv_iconst (v := iI 0) hx hb dW_law_310 rfl ?_
      refine k_lald hx hb hK hW.1 26 18 (s2 26) rfl rfl ⟨by decide, by decide, by decide⟩ dW_law_311 ?_
      refine lv_iload hx hb dW_law_312 (lv_at hl 0 rfl) ?_
      obtain ⟨q4, h⟩ := h
      refine ki_i2l hx hb dW_law_314 q4 ?_
      obtain ⟨q5, h⟩ := h
      refine kl_cmp hx hb q5.1 q5.2 dW_law_315 ?_
      obtain ⟨ht, hf⟩ := h
      refine ki_if_eq (tgt := 321) hx hb dW_law_316 (by decide) (by constructor <;> (repeat' split) <;> decide) (fun c3 => ?_) (fun c3 => ?_)
      · have h := ht c3
        refine lv_goto (tgt := 1251) hx hb dW_law_321 (by decide) ?_
        exact kK s2 _ _ ls h hW (lv_sub hl [2, 3, 4, 5, 6] rfl)
      · have h := hf c3
        refine lv_iconst (v := iI 0) hx hb dW_law_319 rfl ?_
        exact False.elim h
  · have h := hf c1
    refine lv_iconst (v := iI 0) hx hb dW_law_302 rfl ?_
    exact False.elim h
set_option maxHeartbeats 4000000 in
set_option maxRecDepth 100000 in
theorem law_3 {p : Program} {l : Launch} {e : Env} {s : State} {m : MethodId} {below : List Frame} {meth : Method} {c : Code} {b L : Nat} {xs : Nat → Int32} {dC : Nat → ClassId} {dI : Nat → Nat → Nat} {ad : Nat → Nat} {kc : Nat → ClassId} {nn : Nat → Nat} (htr : l.stackTraces = false) (S : CallFix p m c code 7 s #[Value.ref b] (Cond.initialized "PeelRibbons" :: gG) R_W) (hX : va_X b L xs s s.heap) (hbl : b < s.heap.size) (hK : va_K (dC, dI) vwC (tyC kc) s) (hN : kNw nsG s) (hst : ∀ (H : Heap) (locs : List Loc), va_S (fun q : Nat => s.heap.size ≤ q) s.heap H locs → kSt s H) (hL : L ≤ 2562) {i : Int} (hi0 : 0 ≤ i) (hi4 : i + 4 < (L : Int)) {c0 s0 : Nat} (hc1 : c0 + 1 ≤ room_1.cells) (hs1 : s0 + 6 ≤ room_1.slots) {σ : kM} {K : kM → Prop} (h : wl_3 nn xs i σ K) {H : Heap} {locs : List Loc} {ls : Array Slot} (hW : kW (dC, dI) vwC (fun q : Nat => s.heap.size ≤ q) s.heap (wC ad kc nn σ) H locs) (hl : lv_has ls 7 [(0, .ref b), (1, .ref (ad 0)), (2, .ref (ad 27)), (3, .ref (ad 26)), (4, .int (iI i))])
    (kK : ∀ (σ' : kM) (H : Heap) (locs : List Loc) (ls : Array Slot), K σ' → kW (dC, dI) vwC (fun q : Nat => s.heap.size ≤ q) s.heap (wC ad kc nn σ') H locs → lv_has ls 7 [(0, .ref b), (1, .ref (ad 0)), (2, .ref (ad 27)), (3, .ref (ad 26)), (4, .int (iI i))] → W p l e room_1 s m #[Value.ref b] below meth c H locs (c0 + 1) (s0 + 6) (lw_Z below #[Value.ref b] s) (F0 m 1251 ls [])) : W p l e room_1 s m #[Value.ref b] below meth c H locs c0 s0 (lw_Z below #[Value.ref b] s) (F0 m 324 ls []) := by
  obtain ⟨hx, hb, hml, hown, hts⟩ := id S
  have hA : ∀ q : Nat, s.heap.size ≤ q → (fun q : Nat => s.heap.size ≤ q) q := fun _ h => h
  have hbA : ¬ (fun q : Nat => s.heap.size ≤ q) b := Nat.not_le.mpr hbl
  have hca : c0 ≤ room_1.cells := by omega
  have hsa : s0 ≤ room_1.slots := by omega
  unfold wl_3 at h
  refine lv_aload_n hx hb dW_law_324 rfl (lv_at hl 1 rfl) ?_
  obtain ⟨P1, g1, h⟩ := h
  refine kc_vi (As := []) (rest := []) (ci := 0) (q0 := 0) S (c_P_radius l dC dI ad kc nn σ g1) (cwV 0 hts (gV mw_305 mw_306 mw_307 mw_1 k_P_radius) rfl rfl rfl (by decide +kernel) ⟨Nat.le_of_ble_eq_true rfl, Nat.le_of_ble_eq_true rfl⟩) hK hN hA hW (fun _ => rfl) rfl rfl rfl hl.1 rfl (Nat.le_of_ble_eq_true rfl) dW_law_325 ⟨hca, hsa⟩ (fun r1 s1 H locs hp hW => ?_)
  have h := h r1 s1 hp
  refine lv_aload_n hx hb dW_law_328 rfl (lv_at hl 2 rfl) ?_
  obtain ⟨P2, g2, h⟩ := h
  refine kc_vi (As := []) (rest := [.int (iI r1)]) (ci := 8) (q0 := 27) S (c_M_radius l dC dI ad kc nn s1 g2) (cwV 0 hts (gV mw_882 mw_883 mw_884 mw_10 k_M_radius) rfl rfl rfl (by decide +kernel) ⟨Nat.le_of_ble_eq_true rfl, Nat.le_of_ble_eq_true rfl⟩) hK hN hA hW (fun _ => rfl) rfl rfl rfl hl.1 rfl (Nat.le_of_ble_eq_true rfl) dW_law_329 ⟨hca, hsa⟩ (fun r2 s2 H locs hp hW => ?_)
  have h := h r2 s2 hp
  obtain ⟨q1, h⟩ := h
  obtain ⟨q2, h⟩ := h
  obtain ⟨ht, hf⟩ := h
  refine ki_icmp_eq (tgt := 1251) hx hb dW_law_332 (by decide) q1 q2 (fun c1 => ?_) (fun c1 => ?_)
  · have h := ht c1
    refine W.widen (k := c0 + 1) (n := s0 + 6) (by omega) (by omega) ?_
    exact kK s2 _ _ ls h hW (lv_sub hl [0, 1, 2, 3, 4] rfl)
  · have h := hf c1
    refine lv_iconst (v := iI 0) hx hb dW_law_335 rfl ?_
    exact False.elim h
set_option maxHeartbeats 4000000 in
set_option maxRecDepth 100000 in
theorem law_4 {p : Program} {l : Launch} {e : Env} {s : State} {m : MethodId} {below : List Frame} {meth : Method} {c : Code} {b L : Nat} {xs : Nat → Int32} {dC : Nat → ClassId} {dI : Nat → Nat → Nat} {ad : Nat → Nat} {kc : Nat → ClassId} {nn : Nat → Nat} (htr : l.stackTraces = false) (S : CallFix p m c code 7 s #[Value.ref b] (Cond.initialized "PeelRibbons" :: gG) R_W) (hX : va_X b L xs s s.heap) (hbl : b < s.heap.size) (hK : va_K (dC, dI) vwC (tyC kc) s) (hN : kNw nsG s) (hst : ∀ (H : Heap) (locs : List Loc), va_S (fun q : Nat => s.heap.size ≤ q) s.heap H locs → kSt s H) (hL : L ≤ 2562) {i : Int} (hi0 : 0 ≤ i) (hi4 : i + 4 < (L : Int)) {c0 s0 : Nat} (hc1 : c0 + 1 ≤ room_1.cells) (hs1 : s0 + 6 ≤ room_1.slots) {σ : kM} {K : kM → Prop} (h : wl_4 nn xs i σ K) {H : Heap} {locs : List Loc} {ls : Array Slot} (hW : kW (dC, dI) vwC (fun q : Nat => s.heap.size ≤ q) s.heap (wC ad kc nn σ) H locs) (hl : lv_has ls 7 [(0, .ref b), (1, .ref (ad 0)), (2, .ref (ad 27)), (3, .ref (ad 26)), (4, .int (iI i))])
    (kK : ∀ (σ' : kM) (H : Heap) (locs : List Loc) (ls : Array Slot), K σ' → kW (dC, dI) vwC (fun q : Nat => s.heap.size ≤ q) s.heap (wC ad kc nn σ') H locs → lv_has ls 7 [(0, .ref b), (1, .ref (ad 0)), (2, .ref (ad 27)), (3, .ref (ad 26)), (4, .int (iI i))] → W p l e room_1 s m #[Value.ref b] below meth c H locs (c0 + 1) (s0 + 6) (lw_Z below #[Value.ref b] s) (F0 m 1251 ls [])) : W p l e room_1 s m #[Value.ref b] below meth c H locs c0 s0 (lw_Z below #[Value.ref b] s) (F0 m 337 ls []) := by
  obtain ⟨hx, hb, hml, hown, hts⟩ := id S
  have hA : ∀ q : Nat, s.heap.size ≤ q → (fun q : Nat => s.heap.size ≤ q) q := fun _ h => h
  have hbA : ¬ (fun q : Nat => s.heap.size ≤ q) b := Nat.not_le.mpr hbl
  have hca : c0 ≤ room_1.cells := by omega
  have hsa : s0 ≤ room_1.slots := by omega
  unfold wl_4 at h
  refine lv_aload_n hx hb dW_law_337 rfl (lv_at hl 1 rfl) ?_
  refine lv_aload_n hx hb dW_law_338 rfl (lv_at hl 0 rfl) ?_
  refine lv_iload hx hb dW_law_339 (lv_at hl 4 rfl) ?_
  refine lv_iconst (v := iI 1) hx hb dW_law_341 rfl ?_
  refine ki_add hx hb dW_law_342 ?_
  refine k_sld hx hb hX hbl hbA hW.2.2 ⟨by omega, by omega, by omega⟩ dW_law_343 ?_
  refine W.eq (g2 := F0 m 344 ls [.int (iI (xI xs (i + 1))), .ref (ad 0)]) rfl ?_
  refine lv_aload_n hx hb dW_law_344 rfl (lv_at hl 0 rfl) ?_
  refine lv_iload hx hb dW_law_345 (lv_at hl 4 rfl) ?_
  refine lv_iconst (v := iI 2) hx hb dW_law_347 rfl ?_
  refine ki_add hx hb dW_law_348 ?_
  refine k_sld hx hb hX hbl hbA hW.2.2 ⟨by omega, by omega, by omega⟩ dW_law_349 ?_
  refine W.eq (g2 := F0 m 350 ls [.int (iI (xI xs (i + 2))), .int (iI (xI xs (i + 1))), .ref (ad 0)]) rfl ?_
  refine lv_aload_n hx hb dW_law_350 rfl (lv_at hl 0 rfl) ?_
  refine lv_iload hx hb dW_law_351 (lv_at hl 4 rfl) ?_
  refine lv_iconst (v := iI 3) hx hb dW_law_353 rfl ?_
  refine ki_add hx hb dW_law_354 ?_
  refine k_sld hx hb hX hbl hbA hW.2.2 ⟨by omega, by omega, by omega⟩ dW_law_355 ?_
  refine W.eq (g2 := F0 m 356 ls [.int (iI (xI xs (i + 3))), .int (iI (xI xs (i + 2))), .int (iI (xI xs (i + 1))), .ref (ad 0)]) rfl ?_
  refine lv_aload_n hx hb dW_law_356 rfl (lv_at hl 0 rfl) ?_
  refine lv_iload hx hb dW_law_357 (lv_at hl 4 rfl) ?_
  refine lv_iconst (v := iI 4) hx hb dW_law_359 rfl ?_
  refine ki_add hx hb dW_law_360 ?_
  refine k_sld hx hb hX hbl hbA hW.2.2 ⟨by omega, by omega, by omega⟩ dW_law_361 ?_
  refine W.eq (g2 := F0 m 362 ls [.int (iI (xI xs (i + 4))), .int (iI (xI xs (i + 3))), .int (iI (xI xs (i + 2))), .int (iI (xI xs (i + 1))), .ref (ad 0)]) rfl ?_
  refine lv_aload_n hx hb dW_law_362 rfl (lv_at hl 3 rfl) ?_
  obtain ⟨P1, g1, h⟩ := h
  refine kc_sh (n := 6) (As := [.ref (ad 0), .int (iI (xI xs (i + 1))), .int (iI (xI xs (i + 2))), .int (iI (xI xs (i + 3))), .int (iI (xI xs (i + 4))), .ref (ad 26)]) (rest := []) S (c_W_roomOf l htr dC dI ad kc nn σ (xI xs (i + 1)) (xI xs (i + 2)) (xI xs (i + 3)) (xI xs (i + 4)) g1) rfl rfl ⟨Nat.le_of_ble_eq_true rfl, Nat.le_of_ble_eq_true rfl⟩ (gG_good k_W_roomOf) List.mem_cons_self (hts _ (gG_in mw_431)) (hts _ (gG_in mw_432)) (hts _ (gG_in mw_0)) (by decide +kernel) hK hN (hst H locs hW.2.2) hA hW (fun _ => rfl) rfl hl.1 rfl (Nat.le_of_ble_eq_true rfl) dW_law_363 ⟨hc1, hs1⟩ (fun r1 s1 H locs hp hW => ?_)
  have h := h r1 s1 hp
  refine lv_istore (lv' := [(5, .int (iI r1)), (0, .ref b), (1, .ref (ad 0)), (2, .ref (ad 27)), (3, .ref (ad 26)), (4, .int (iI i))]) hx hb dW_law_366 hl (by decide) rfl (fun ls hl => ?_)
  refine lv_aload_n hx hb dW_law_368 rfl (lv_at hl 3 rfl) ?_
  refine lv_aload_n hx hb dW_law_369 rfl (lv_at hl 1 rfl) ?_
  refine lv_iload hx hb dW_law_370 (lv_at hl 5 rfl) ?_
  refine lv_iconst (v := iI 1) hx hb dW_law_372 rfl ?_
  refine ki_add hx hb dW_law_373 ?_
  refine k_sld hx hb hX hbl hbA hW.2.2 ⟨by omega, by omega, by omega⟩ dW_law_374 ?_
  refine W.eq (g2 := F0 m 375 ls [.int (iI (xI xs (i + 1))), .ref (ad 27)]) rfl ?_
  refine lv_aload_n hx hb dW_law_375 rfl (lv_at hl 1 rfl) ?_
  refine lv_iload hx hb dW_law_376 (lv_at hl 5 rfl) ?_
  refine lv_iconst (v := iI 2) hx hb dW_law_378 rfl ?_
  refine ki_add hx hb dW_law_379 ?_
  refine k_sld hx hb hX hbl hbA hW.2.2 ⟨by omega, by omega, by omega⟩ dW_law_380 ?_
  refine W.eq (g2 := F0 m 381 ls [.int (iI (xI xs (i + 2))), .int (iI (xI xs (i + 1))), .ref (ad 27)]) rfl ?_
  refine lv_aload_n hx hb dW_law_381 rfl (lv_at hl 1 rfl) ?_
  refine lv_iload hx hb dW_law_382 (lv_at hl 5 rfl) ?_
  refine lv_iconst (v := iI 3) hx hb dW_law_384 rfl ?_
  refine ki_add hx hb dW_law_385 ?_
  refine k_sld hx hb hX hbl hbA hW.2.2 ⟨by omega, by omega, by omega⟩ dW_law_386 ?_
  refine W.eq (g2 := F0 m 387 ls [.int (iI (xI xs (i + 3))), .int (iI (xI xs (i + 2))), .int (iI (xI xs (i + 1))), .ref (ad 27)]) rfl ?_
  refine lv_aload_n hx hb dW_law_387 rfl (lv_at hl 1 rfl) ?_
  refine lv_iload hx hb dW_law_388 (lv_at hl 5 rfl) ?_
  refine lv_iconst (v := iI 4) hx hb dW_law_390 rfl ?_
  refine ki_add hx hb dW_law_391 ?_
  refine k_sld hx hb hX hbl hbA hW.2.2 ⟨by omega, by omega, by omega⟩ dW_law_392 ?_
  refine W.eq (g2 := F0 m 393 ls [.int (iI (xI xs (i + 4))), .int (iI (xI xs (i + 3))), .int (iI (xI xs (i + 2))), .int (iI (xI xs (i + 1))), .ref (ad 27)]) rfl ?_
  obtain ⟨P2, g2, h⟩ := h
  refine kc_vi (As := [.int (iI (xI xs (i + 1))), .int (iI (xI xs (i + 2))), .int (iI (xI xs (i + 3))), .int (iI (xI xs (i + 4)))]) (rest := []) (ci := 8) (q0 := 27) S (c_M_roomOf l dC dI ad kc nn s1 (xI xs (i + 1)) (xI xs (i + 2)) (xI xs (i + 3)) (xI xs (i + 4)) g2) (cwV 4 hts (gV mw_886 mw_887 mw_888 mw_10 k_M_roomOf) rfl rfl rfl (by decide +kernel) ⟨Nat.le_of_ble_eq_true rfl, Nat.le_of_ble_eq_true rfl⟩) hK hN hA hW (fun _ => rfl) rfl rfl rfl hl.1 rfl (Nat.le_of_ble_eq_true rfl) dW_law_393 ⟨hc1, hs1⟩ (fun r2 s2 H locs hp hW => ?_)
  have h := h r2 s2 hp
  refine lv_istore (lv' := [(6, .int (iI r2)), (5, .int (iI r1)), (0, .ref b), (1, .ref (ad 0)), (2, .ref (ad 27)), (3, .ref (ad 26)), (4, .int (iI i))]) hx hb dW_law_396 hl (by decide) rfl (fun ls hl => ?_)
  refine lv_aload_n hx hb dW_law_398 rfl (lv_at hl 4 rfl) ?_
  refine kc_vp (As := []) (rest := []) (ci := 8) (q0 := 27) S (c_M_thrown l dC dI ad kc nn s2 (P := fun r => (s2 27 0) = r) rfl) (cwV 0 hts (gV mw_844 mw_845 mw_846 mw_10 k_M_thrown) rfl rfl rfl (by decide +kernel) ⟨Nat.le_of_ble_eq_true rfl, Nat.le_of_ble_eq_true rfl⟩) hK hN hW.1 rfl rfl rfl hl.1 rfl (Nat.le_of_ble_eq_true rfl) dW_law_399 ⟨hc1, hs1⟩ (fun r3 hp => ?_)
  subst hp
  refine lv_iload hx hb dW_law_402 (lv_at hl 1 rfl) ?_
  obtain ⟨q1, h⟩ := h
  obtain ⟨q2, h⟩ := h
  obtain ⟨ht, hf⟩ := h
  refine ki_icmp_eq (tgt := 409) hx hb dW_law_404 (by decide) q1 q2 (fun c1 => ?_) (fun c1 => ?_)
  · have h := ht c1
    refine lv_iload hx hb dW_law_409 (lv_at hl 1 rfl) ?_
    obtain ⟨q3, h⟩ := h
    obtain ⟨ht, hf⟩ := h
    refine ki_if_ne (tgt := 426) hx hb dW_law_411 (by decide) q3 (fun c2 => ?_) (fun c2 => ?_)
    · have h := ht c2
      refine lv_goto (tgt := 1251) hx hb dW_law_426 (by decide) ?_
      exact kK s2 _ _ ls h hW (lv_sub hl [2, 3, 4, 5, 6] rfl)
    · have h := hf c2
      refine lv_aload_n hx hb dW_law_414 rfl (lv_at hl 5 rfl) ?_
      refine lv_iconst (v := iI 0) hx hb dW_law_415 rfl ?_
      refine k_lald hx hb hK hW.1 26 18 (s2 26) rfl rfl ⟨by decide, by decide, by decide⟩ dW_law_416 ?_
      refine lv_iload hx hb dW_law_417 (lv_at hl 0 rfl) ?_
      obtain ⟨q4, h⟩ := h
      refine ki_i2l hx hb dW_law_419 q4 ?_
      obtain ⟨q5, h⟩ := h
      refine kl_cmp hx hb q5.1 q5.2 dW_law_420 ?_
      obtain ⟨ht, hf⟩ := h
      refine ki_if_eq (tgt := 426) hx hb dW_law_421 (by decide) (by constructor <;> (repeat' split) <;> decide) (fun c3 => ?_) (fun c3 => ?_)
      · have h := ht c3
        refine lv_goto (tgt := 1251) hx hb dW_law_426 (by decide) ?_
        exact kK s2 _ _ ls h hW (lv_sub hl [2, 3, 4, 5, 6] rfl)
      · have h := hf c3
        refine lv_iconst (v := iI 0) hx hb dW_law_424 rfl ?_
        exact False.elim h
  · have h := hf c1
    refine lv_iconst (v := iI 0) hx hb dW_law_407 rfl ?_
    exact False.elim h
set_option maxHeartbeats 4000000 in
set_option maxRecDepth 100000 in
theorem law_5 {p : Program} {l : Launch} {e : Env} {s : State} {m : MethodId} {below : List Frame} {meth : Method} {c : Code} {b L : Nat} {xs : Nat → Int32} {dC : Nat → ClassId} {dI : Nat → Nat → Nat} {ad : Nat → Nat} {kc : Nat → ClassId} {nn : Nat → Nat} (htr : l.stackTraces = false) (S : CallFix p m c code 7 s #[Value.ref b] (Cond.initialized "PeelRibbons" :: gG) R_W) (hX : va_X b L xs s s.heap) (hbl : b < s.heap.size) (hK : va_K (dC, dI) vwC (tyC kc) s) (hN : kNw nsG s) (hst : ∀ (H : Heap) (locs : List Loc), va_S (fun q : Nat => s.heap.size ≤ q) s.heap H locs → kSt s H) (hL : L ≤ 2562) {i : Int} (hi0 : 0 ≤ i) (hi4 : i + 4 < (L : Int)) {c0 s0 : Nat} (hc1 : c0 + 1 ≤ room_1.cells) (hs1 : s0 + 6 ≤ room_1.slots) {σ : kM} {K : kM → Prop} (h : wl_5 nn xs i σ K) {H : Heap} {locs : List Loc} {ls : Array Slot} (hW : kW (dC, dI) vwC (fun q : Nat => s.heap.size ≤ q) s.heap (wC ad kc nn σ) H locs) (hl : lv_has ls 7 [(0, .ref b), (1, .ref (ad 0)), (2, .ref (ad 27)), (3, .ref (ad 26)), (4, .int (iI i))])
    (kK : ∀ (σ' : kM) (H : Heap) (locs : List Loc) (ls : Array Slot), K σ' → kW (dC, dI) vwC (fun q : Nat => s.heap.size ≤ q) s.heap (wC ad kc nn σ') H locs → lv_has ls 7 [(0, .ref b), (1, .ref (ad 0)), (2, .ref (ad 27)), (3, .ref (ad 26)), (4, .int (iI i))] → W p l e room_1 s m #[Value.ref b] below meth c H locs (c0 + 1) (s0 + 6) (lw_Z below #[Value.ref b] s) (F0 m 1251 ls [])) : W p l e room_1 s m #[Value.ref b] below meth c H locs c0 s0 (lw_Z below #[Value.ref b] s) (F0 m 429 ls []) := by
  obtain ⟨hx, hb, hml, hown, hts⟩ := id S
  have hA : ∀ q : Nat, s.heap.size ≤ q → (fun q : Nat => s.heap.size ≤ q) q := fun _ h => h
  have hbA : ¬ (fun q : Nat => s.heap.size ≤ q) b := Nat.not_le.mpr hbl
  have hca : c0 ≤ room_1.cells := by omega
  have hsa : s0 ≤ room_1.slots := by omega
  unfold wl_5 at h
  refine lv_aload_n hx hb dW_law_429 rfl (lv_at hl 1 rfl) ?_
  refine lv_aload_n hx hb dW_law_430 rfl (lv_at hl 0 rfl) ?_
  refine lv_iload hx hb dW_law_431 (lv_at hl 4 rfl) ?_
  refine lv_iconst (v := iI 1) hx hb dW_law_433 rfl ?_
  refine ki_add hx hb dW_law_434 ?_
  refine k_sld hx hb hX hbl hbA hW.2.2 ⟨by omega, by omega, by omega⟩ dW_law_435 ?_
  refine W.eq (g2 := F0 m 436 ls [.int (iI (xI xs (i + 1))), .ref (ad 0)]) rfl ?_
  refine lv_aload_n hx hb dW_law_436 rfl (lv_at hl 0 rfl) ?_
  refine lv_iload hx hb dW_law_437 (lv_at hl 4 rfl) ?_
  refine lv_iconst (v := iI 2) hx hb dW_law_439 rfl ?_
  refine ki_add hx hb dW_law_440 ?_
  refine k_sld hx hb hX hbl hbA hW.2.2 ⟨by omega, by omega, by omega⟩ dW_law_441 ?_
  refine W.eq (g2 := F0 m 442 ls [.int (iI (xI xs (i + 2))), .int (iI (xI xs (i + 1))), .ref (ad 0)]) rfl ?_
  refine lv_aload_n hx hb dW_law_442 rfl (lv_at hl 3 rfl) ?_
  obtain ⟨P1, g1, h⟩ := h
  refine kc_sh (n := 4) (As := [.ref (ad 0), .int (iI (xI xs (i + 1))), .int (iI (xI xs (i + 2))), .ref (ad 26)]) (rest := []) S (c_W_peel l htr dC dI ad kc nn σ (xI xs (i + 1)) (xI xs (i + 2)) g1) rfl rfl ⟨Nat.le_of_ble_eq_true rfl, Nat.le_of_ble_eq_true rfl⟩ (gG_good k_W_peel) List.mem_cons_self (hts _ (gG_in mw_447)) (hts _ (gG_in mw_448)) (hts _ (gG_in mw_0)) (by decide +kernel) hK hN (hst H locs hW.2.2) hA hW (fun _ => rfl) rfl hl.1 rfl (Nat.le_of_ble_eq_true rfl) dW_law_443 ⟨hc1, hs1⟩ (fun r1 s1 H locs hp hW => ?_)
  have h := h r1 s1 hp
  refine lv_istore (lv' := [(5, .int (iI r1)), (0, .ref b), (1, .ref (ad 0)), (2, .ref (ad 27)), (3, .ref (ad 26)), (4, .int (iI i))]) hx hb dW_law_446 hl (by decide) rfl (fun ls hl => ?_)
  refine lv_aload_n hx hb dW_law_448 rfl (lv_at hl 3 rfl) ?_
  refine lv_aload_n hx hb dW_law_449 rfl (lv_at hl 1 rfl) ?_
  refine lv_iload hx hb dW_law_450 (lv_at hl 5 rfl) ?_
  refine lv_iconst (v := iI 1) hx hb dW_law_452 rfl ?_
  refine ki_add hx hb dW_law_453 ?_
  refine k_sld hx hb hX hbl hbA hW.2.2 ⟨by omega, by omega, by omega⟩ dW_law_454 ?_
  refine W.eq (g2 := F0 m 455 ls [.int (iI (xI xs (i + 1))), .ref (ad 27)]) rfl ?_
  refine lv_aload_n hx hb dW_law_455 rfl (lv_at hl 1 rfl) ?_
  refine lv_iload hx hb dW_law_456 (lv_at hl 5 rfl) ?_
  refine lv_iconst (v := iI 2) hx hb dW_law_458 rfl ?_
  refine ki_add hx hb dW_law_459 ?_
  refine k_sld hx hb hX hbl hbA hW.2.2 ⟨by omega, by omega, by omega⟩ dW_law_460 ?_
  refine W.eq (g2 := F0 m 461 ls [.int (iI (xI xs (i + 2))), .int (iI (xI xs (i + 1))), .ref (ad 27)]) rfl ?_
  obtain ⟨P2, g2, h⟩ := h
  refine kc_vi (As := [.int (iI (xI xs (i + 1))), .int (iI (xI xs (i + 2)))]) (rest := []) (ci := 8) (q0 := 27) S (c_M_peel l dC dI ad kc nn s1 (xI xs (i + 1)) (xI xs (i + 2)) g2) (cwV 2 hts (gV mw_890 mw_891 mw_892 mw_10 k_M_peel) rfl rfl rfl (by decide +kernel) ⟨Nat.le_of_ble_eq_true rfl, Nat.le_of_ble_eq_true rfl⟩) hK hN hA hW (fun _ => rfl) rfl rfl rfl hl.1 rfl (Nat.le_of_ble_eq_true rfl) dW_law_461 ⟨hc1, hs1⟩ (fun r2 s2 H locs hp hW => ?_)
  have h := h r2 s2 hp
  refine lv_istore (lv' := [(6, .int (iI r2)), (5, .int (iI r1)), (0, .ref b), (1, .ref (ad 0)), (2, .ref (ad 27)), (3, .ref (ad 26)), (4, .int (iI i))]) hx hb dW_law_464 hl (by decide) rfl (fun ls hl => ?_)
  refine lv_aload_n hx hb dW_law_466 rfl (lv_at hl 4 rfl) ?_
  refine kc_vp (As := []) (rest := []) (ci := 8) (q0 := 27) S (c_M_thrown l dC dI ad kc nn s2 (P := fun r => (s2 27 0) = r) rfl) (cwV 0 hts (gV mw_844 mw_845 mw_846 mw_10 k_M_thrown) rfl rfl rfl (by decide +kernel) ⟨Nat.le_of_ble_eq_true rfl, Nat.le_of_ble_eq_true rfl⟩) hK hN hW.1 rfl rfl rfl hl.1 rfl (Nat.le_of_ble_eq_true rfl) dW_law_467 ⟨hc1, hs1⟩ (fun r3 hp => ?_)
  subst hp
  refine lv_iload hx hb dW_law_470 (lv_at hl 1 rfl) ?_
  obtain ⟨q1, h⟩ := h
  obtain ⟨q2, h⟩ := h
  obtain ⟨ht, hf⟩ := h
  refine ki_icmp_eq (tgt := 477) hx hb dW_law_472 (by decide) q1 q2 (fun c1 => ?_) (fun c1 => ?_)
  · have h := ht c1
    refine lv_iload hx hb dW_law_477 (lv_at hl 1 rfl) ?_
    obtain ⟨q3, h⟩ := h
    obtain ⟨ht, hf⟩ := h
    refine ki_if_ne (tgt := 494) hx hb dW_law_479 (by decide) q3 (fun c2 => ?_) (fun c2 => ?_)
    · have h := ht c2
      refine lv_goto (tgt := 1251) hx hb dW_law_494 (by decide) ?_
      exact kK s2 _ _ ls h hW (lv_sub hl [2, 3, 4, 5, 6] rfl)
    · have h := hf c2
      refine lv_aload_n hx hb dW_law_482 rfl (lv_at hl 5 rfl) ?_
      refine lv_iconst (v := iI 0) hx hb dW_law_483 rfl ?_
      refine k_lald hx hb hK hW.1 26 18 (s2 26) rfl rfl ⟨by decide, by decide, by decide⟩ dW_law_484 ?_
      refine lv_iload hx hb dW_law_485 (lv_at hl 0 rfl) ?_
      obtain ⟨q4, h⟩ := h
      refine ki_i2l hx hb dW_law_487 q4 ?_
      obtain ⟨q5, h⟩ := h
      refine kl_cmp hx hb q5.1 q5.2 dW_law_488 ?_
      obtain ⟨ht, hf⟩ := h
      refine ki_if_eq (tgt := 494) hx hb dW_law_489 (by decide) (by constructor <;> (repeat' split) <;> decide) (fun c3 => ?_) (fun c3 => ?_)
      · have h := ht c3
        refine lv_goto (tgt := 1251) hx hb dW_law_494 (by decide) ?_
        exact kK s2 _ _ ls h hW (lv_sub hl [2, 3, 4, 5, 6] rfl)
      · have h := hf c3
        refine lv_iconst (v := iI 0) hx hb dW_law_492 rfl ?_
        exact False.elim h
  · have h := hf c1
    refine lv_iconst (v := iI 0) hx hb dW_law_475 rfl ?_
    exact False.elim h
set_option maxHeartbeats 4000000 in
set_option maxRecDepth 100000 in
theorem law_6 {p : Program} {l : Launch} {e : Env} {s : State} {m : MethodId} {below : List Frame} {meth : Method} {c : Code} {b L : Nat} {xs : Nat → Int32} {dC : Nat → ClassId} {dI : Nat → Nat → Nat} {ad : Nat → Nat} {kc : Nat → ClassId} {nn : Nat → Nat} (htr : l.stackTraces = false) (S : CallFix p m c code 7 s #[Value.ref b] (Cond.initialized "PeelRibbons" :: gG) R_W) (hX : va_X b L xs s s.heap) (hbl : b < s.heap.size) (hK : va_K (dC, dI) vwC (tyC kc) s) (hN : kNw nsG s) (hst : ∀ (H : Heap) (locs : List Loc), va_S (fun q : Nat => s.heap.size ≤ q) s.heap H locs → kSt s H) (hL : L ≤ 2562) {i : Int} (hi0 : 0 ≤ i) (hi4 : i + 4 < (L : Int)) {c0 s0 : Nat} (hc1 : c0 + 1 ≤ room_1.cells) (hs1 : s0 + 6 ≤ room_1.slots) {σ : kM} {K : kM → Prop} (h : wl_6 nn xs i σ K) {H : Heap} {locs : List Loc} {ls : Array Slot} (hW : kW (dC, dI) vwC (fun q : Nat => s.heap.size ≤ q) s.heap (wC ad kc nn σ) H locs) (hl : lv_has ls 7 [(0, .ref b), (1, .ref (ad 0)), (2, .ref (ad 27)), (3, .ref (ad 26)), (4, .int (iI i))])
    (kK : ∀ (σ' : kM) (H : Heap) (locs : List Loc) (ls : Array Slot), K σ' → kW (dC, dI) vwC (fun q : Nat => s.heap.size ≤ q) s.heap (wC ad kc nn σ') H locs → lv_has ls 7 [(0, .ref b), (1, .ref (ad 0)), (2, .ref (ad 27)), (3, .ref (ad 26)), (4, .int (iI i))] → W p l e room_1 s m #[Value.ref b] below meth c H locs (c0 + 1) (s0 + 6) (lw_Z below #[Value.ref b] s) (F0 m 1251 ls [])) : W p l e room_1 s m #[Value.ref b] below meth c H locs c0 s0 (lw_Z below #[Value.ref b] s) (F0 m 497 ls []) := by
  obtain ⟨hx, hb, hml, hown, hts⟩ := id S
  have hA : ∀ q : Nat, s.heap.size ≤ q → (fun q : Nat => s.heap.size ≤ q) q := fun _ h => h
  have hbA : ¬ (fun q : Nat => s.heap.size ≤ q) b := Nat.not_le.mpr hbl
  have hca : c0 ≤ room_1.cells := by omega
  have hsa : s0 ≤ room_1.slots := by omega
  unfold wl_6 at h
  refine lv_aload_n hx hb dW_law_497 rfl (lv_at hl 1 rfl) ?_
  refine lv_aload_n hx hb dW_law_498 rfl (lv_at hl 0 rfl) ?_
  refine lv_iload hx hb dW_law_499 (lv_at hl 4 rfl) ?_
  refine lv_iconst (v := iI 1) hx hb dW_law_501 rfl ?_
  refine ki_add hx hb dW_law_502 ?_
  refine k_sld hx hb hX hbl hbA hW.2.2 ⟨by omega, by omega, by omega⟩ dW_law_503 ?_
  refine W.eq (g2 := F0 m 504 ls [.int (iI (xI xs (i + 1))), .ref (ad 0)]) rfl ?_
  refine lv_aload_n hx hb dW_law_504 rfl (lv_at hl 3 rfl) ?_
  obtain ⟨P1, g1, h⟩ := h
  refine kc_sh (n := 3) (As := [.ref (ad 0), .int (iI (xI xs (i + 1))), .ref (ad 26)]) (rest := []) S (c_W_before l htr dC dI ad kc nn σ (xI xs (i + 1)) g1) rfl rfl ⟨Nat.le_of_ble_eq_true rfl, Nat.le_of_ble_eq_true rfl⟩ (gG_good k_W_before) List.mem_cons_self (hts _ (gG_in mw_480)) (hts _ (gG_in mw_481)) (hts _ (gG_in mw_0)) (by decide +kernel) hK hN (hst H locs hW.2.2) hA hW (fun _ => rfl) rfl hl.1 rfl (Nat.le_of_ble_eq_true rfl) dW_law_505 ⟨hc1, hs1⟩ (fun r1 s1 H locs hp hW => ?_)
  have h := h r1 s1 hp
  refine lv_istore (lv' := [(5, .int (iI r1)), (0, .ref b), (1, .ref (ad 0)), (2, .ref (ad 27)), (3, .ref (ad 26)), (4, .int (iI i))]) hx hb dW_law_508 hl (by decide) rfl (fun ls hl => ?_)
  refine lv_aload_n hx hb dW_law_510 rfl (lv_at hl 3 rfl) ?_
  refine lv_aload_n hx hb dW_law_511 rfl (lv_at hl 1 rfl) ?_
  refine lv_iload hx hb dW_law_512 (lv_at hl 5 rfl) ?_
  refine lv_iconst (v := iI 1) hx hb dW_law_514 rfl ?_
  refine ki_add hx hb dW_law_515 ?_
  refine k_sld hx hb hX hbl hbA hW.2.2 ⟨by omega, by omega, by omega⟩ dW_law_516 ?_
  refine W.eq (g2 := F0 m 517 ls [.int (iI (xI xs (i + 1))), .ref (ad 27)]) rfl ?_
  obtain ⟨P2, g2, h⟩ := h
  refine kc_vi (As := [.int (iI (xI xs (i + 1)))]) (rest := []) (ci := 8) (q0 := 27) S (c_M_before l dC dI ad kc nn s1 (xI xs (i + 1)) g2) (cwV 1 hts (gV mw_895 mw_896 mw_897 mw_10 k_M_before) rfl rfl rfl (by decide +kernel) ⟨Nat.le_of_ble_eq_true rfl, Nat.le_of_ble_eq_true rfl⟩) hK hN hA hW (fun _ => rfl) rfl rfl rfl hl.1 rfl (Nat.le_of_ble_eq_true rfl) dW_law_517 ⟨hc1, hs1⟩ (fun r2 s2 H locs hp hW => ?_)
  have h := h r2 s2 hp
  refine lv_istore (lv' := [(6, .int (iI r2)), (5, .int (iI r1)), (0, .ref b), (1, .ref (ad 0)), (2, .ref (ad 27)), (3, .ref (ad 26)), (4, .int (iI i))]) hx hb dW_law_520 hl (by decide) rfl (fun ls hl => ?_)
  refine lv_aload_n hx hb dW_law_522 rfl (lv_at hl 4 rfl) ?_
  refine kc_vp (As := []) (rest := []) (ci := 8) (q0 := 27) S (c_M_thrown l dC dI ad kc nn s2 (P := fun r => (s2 27 0) = r) rfl) (cwV 0 hts (gV mw_844 mw_845 mw_846 mw_10 k_M_thrown) rfl rfl rfl (by decide +kernel) ⟨Nat.le_of_ble_eq_true rfl, Nat.le_of_ble_eq_true rfl⟩) hK hN hW.1 rfl rfl rfl hl.1 rfl (Nat.le_of_ble_eq_true rfl) dW_law_523 ⟨hc1, hs1⟩ (fun r3 hp => ?_)
  subst hp
  refine lv_iload hx hb dW_law_526 (lv_at hl 1 rfl) ?_
  obtain ⟨q1, h⟩ := h
  obtain ⟨q2, h⟩ := h
  obtain ⟨ht, hf⟩ := h
  refine ki_icmp_eq (tgt := 533) hx hb dW_law_528 (by decide) q1 q2 (fun c1 => ?_) (fun c1 => ?_)
  · have h := ht c1
    refine lv_iload hx hb dW_law_533 (lv_at hl 1 rfl) ?_
    obtain ⟨q3, h⟩ := h
    obtain ⟨ht, hf⟩ := h
    refine ki_if_ne (tgt := 550) hx hb dW_law_535 (by decide) q3 (fun c2 => ?_) (fun c2 => ?_)
    · have h := ht c2
      refine lv_goto (tgt := 1251) hx hb dW_law_550 (by decide) ?_
      exact kK s2 _ _ ls h hW (lv_sub hl [2, 3, 4, 5, 6] rfl)
    · have h := hf c2
      refine lv_aload_n hx hb dW_law_538 rfl (lv_at hl 5 rfl) ?_
      refine lv_iconst (v := iI 0) hx hb dW_law_539 rfl ?_
      refine k_lald hx hb hK hW.1 26 18 (s2 26) rfl rfl ⟨by decide, by decide, by decide⟩ dW_law_540 ?_
      refine lv_iload hx hb dW_law_541 (lv_at hl 0 rfl) ?_
      obtain ⟨q4, h⟩ := h
      refine ki_i2l hx hb dW_law_543 q4 ?_
      obtain ⟨q5, h⟩ := h
      refine kl_cmp hx hb q5.1 q5.2 dW_law_544 ?_
      obtain ⟨ht, hf⟩ := h
      refine ki_if_eq (tgt := 550) hx hb dW_law_545 (by decide) (by constructor <;> (repeat' split) <;> decide) (fun c3 => ?_) (fun c3 => ?_)
      · have h := ht c3
        refine lv_goto (tgt := 1251) hx hb dW_law_550 (by decide) ?_
        exact kK s2 _ _ ls h hW (lv_sub hl [2, 3, 4, 5, 6] rfl)
      · have h := hf c3
        refine lv_iconst (v := iI 0) hx hb dW_law_548 rfl ?_
        exact False.elim h
  · have h := hf c1
    refine lv_iconst (v := iI 0) hx hb dW_law_531 rfl ?_
    exact False.elim h
set_option maxHeartbeats 4000000 in
set_option maxRecDepth 100000 in
theorem law_7 {p : Program} {l : Launch} {e : Env} {s : State} {m : MethodId} {below : List Frame} {meth : Method} {c : Code} {b L : Nat} {xs : Nat → Int32} {dC : Nat → ClassId} {dI : Nat → Nat → Nat} {ad : Nat → Nat} {kc : Nat → ClassId} {nn : Nat → Nat} (htr : l.stackTraces = false) (S : CallFix p m c code 7 s #[Value.ref b] (Cond.initialized "PeelRibbons" :: gG) R_W) (hX : va_X b L xs s s.heap) (hbl : b < s.heap.size) (hK : va_K (dC, dI) vwC (tyC kc) s) (hN : kNw nsG s) (hst : ∀ (H : Heap) (locs : List Loc), va_S (fun q : Nat => s.heap.size ≤ q) s.heap H locs → kSt s H) (hL : L ≤ 2562) {i : Int} (hi0 : 0 ≤ i) (hi4 : i + 4 < (L : Int)) {c0 s0 : Nat} (hc1 : c0 + 1 ≤ room_1.cells) (hs1 : s0 + 6 ≤ room_1.slots) {σ : kM} {K : kM → Prop} (h : wl_7 nn xs i σ K) {H : Heap} {locs : List Loc} {ls : Array Slot} (hW : kW (dC, dI) vwC (fun q : Nat => s.heap.size ≤ q) s.heap (wC ad kc nn σ) H locs) (hl : lv_has ls 7 [(0, .ref b), (1, .ref (ad 0)), (2, .ref (ad 27)), (3, .ref (ad 26)), (4, .int (iI i))])
    (kK : ∀ (σ' : kM) (H : Heap) (locs : List Loc) (ls : Array Slot), K σ' → kW (dC, dI) vwC (fun q : Nat => s.heap.size ≤ q) s.heap (wC ad kc nn σ') H locs → lv_has ls 7 [(0, .ref b), (1, .ref (ad 0)), (2, .ref (ad 27)), (3, .ref (ad 26)), (4, .int (iI i))] → W p l e room_1 s m #[Value.ref b] below meth c H locs (c0 + 1) (s0 + 6) (lw_Z below #[Value.ref b] s) (F0 m 1251 ls [])) : W p l e room_1 s m #[Value.ref b] below meth c H locs c0 s0 (lw_Z below #[Value.ref b] s) (F0 m 553 ls []) := by
  obtain ⟨hx, hb, hml, hown, hts⟩ := id S
  have hA : ∀ q : Nat, s.heap.size ≤ q → (fun q : Nat => s.heap.size ≤ q) q := fun _ h => h
  have hbA : ¬ (fun q : Nat => s.heap.size ≤ q) b := Nat.not_le.mpr hbl
  have hca : c0 ≤ room_1.cells := by omega
  have hsa : s0 ≤ room_1.slots := by omega
  unfold wl_7 at h
  refine lv_aload_n hx hb dW_law_553 rfl (lv_at hl 1 rfl) ?_
  refine lv_aload_n hx hb dW_law_554 rfl (lv_at hl 0 rfl) ?_
  refine lv_iload hx hb dW_law_555 (lv_at hl 4 rfl) ?_
  refine lv_iconst (v := iI 1) hx hb dW_law_557 rfl ?_
  refine ki_add hx hb dW_law_558 ?_
  refine k_sld hx hb hX hbl hbA hW.2.2 ⟨by omega, by omega, by omega⟩ dW_law_559 ?_
  refine W.eq (g2 := F0 m 560 ls [.int (iI (xI xs (i + 1))), .ref (ad 0)]) rfl ?_
  refine lv_aload_n hx hb dW_law_560 rfl (lv_at hl 0 rfl) ?_
  refine lv_iload hx hb dW_law_561 (lv_at hl 4 rfl) ?_
  refine lv_iconst (v := iI 2) hx hb dW_law_563 rfl ?_
  refine ki_add hx hb dW_law_564 ?_
  refine k_sld hx hb hX hbl hbA hW.2.2 ⟨by omega, by omega, by omega⟩ dW_law_565 ?_
  refine W.eq (g2 := F0 m 566 ls [.int (iI (xI xs (i + 2))), .int (iI (xI xs (i + 1))), .ref (ad 0)]) rfl ?_
  refine lv_aload_n hx hb dW_law_566 rfl (lv_at hl 0 rfl) ?_
  refine lv_iload hx hb dW_law_567 (lv_at hl 4 rfl) ?_
  refine lv_iconst (v := iI 3) hx hb dW_law_569 rfl ?_
  refine ki_add hx hb dW_law_570 ?_
  refine k_sld hx hb hX hbl hbA hW.2.2 ⟨by omega, by omega, by omega⟩ dW_law_571 ?_
  refine W.eq (g2 := F0 m 572 ls [.int (iI (xI xs (i + 3))), .int (iI (xI xs (i + 2))), .int (iI (xI xs (i + 1))), .ref (ad 0)]) rfl ?_
  refine lv_aload_n hx hb dW_law_572 rfl (lv_at hl 3 rfl) ?_
  obtain ⟨P1, g1, h⟩ := h
  refine kc_sh (n := 5) (As := [.ref (ad 0), .int (iI (xI xs (i + 1))), .int (iI (xI xs (i + 2))), .int (iI (xI xs (i + 3))), .ref (ad 26)]) (rest := []) S (c_W_fault l htr dC dI ad kc nn σ (xI xs (i + 1)) (xI xs (i + 2)) (xI xs (i + 3)) g1) rfl rfl ⟨Nat.le_of_ble_eq_true rfl, Nat.le_of_ble_eq_true rfl⟩ (gG_good k_W_fault) List.mem_cons_self (hts _ (gG_in mw_516)) (hts _ (gG_in mw_517)) (hts _ (gG_in mw_0)) (by decide +kernel) hK hN (hst H locs hW.2.2) hA hW (fun _ => rfl) rfl hl.1 rfl (Nat.le_of_ble_eq_true rfl) dW_law_573 ⟨hc1, hs1⟩ (fun r1 s1 H locs hp hW => ?_)
  have h := h r1 s1 hp
  refine lv_istore (lv' := [(5, .int (iI r1)), (0, .ref b), (1, .ref (ad 0)), (2, .ref (ad 27)), (3, .ref (ad 26)), (4, .int (iI i))]) hx hb dW_law_576 hl (by decide) rfl (fun ls hl => ?_)
  refine lv_aload_n hx hb dW_law_578 rfl (lv_at hl 3 rfl) ?_
  refine lv_aload_n hx hb dW_law_579 rfl (lv_at hl 1 rfl) ?_
  refine lv_iload hx hb dW_law_580 (lv_at hl 5 rfl) ?_
  refine lv_iconst (v := iI 1) hx hb dW_law_582 rfl ?_
  refine ki_add hx hb dW_law_583 ?_
  refine k_sld hx hb hX hbl hbA hW.2.2 ⟨by omega, by omega, by omega⟩ dW_law_584 ?_
  refine W.eq (g2 := F0 m 585 ls [.int (iI (xI xs (i + 1))), .ref (ad 27)]) rfl ?_
  refine lv_aload_n hx hb dW_law_585 rfl (lv_at hl 1 rfl) ?_
  refine lv_iload hx hb dW_law_586 (lv_at hl 5 rfl) ?_
  refine lv_iconst (v := iI 2) hx hb dW_law_588 rfl ?_
  refine ki_add hx hb dW_law_589 ?_
  refine k_sld hx hb hX hbl hbA hW.2.2 ⟨by omega, by omega, by omega⟩ dW_law_590 ?_
  refine W.eq (g2 := F0 m 591 ls [.int (iI (xI xs (i + 2))), .int (iI (xI xs (i + 1))), .ref (ad 27)]) rfl ?_
  refine lv_aload_n hx hb dW_law_591 rfl (lv_at hl 1 rfl) ?_
  refine lv_iload hx hb dW_law_592 (lv_at hl 5 rfl) ?_
  refine lv_iconst (v := iI 3) hx hb dW_law_594 rfl ?_
  refine ki_add hx hb dW_law_595 ?_
  refine k_sld hx hb hX hbl hbA hW.2.2 ⟨by omega, by omega, by omega⟩ dW_law_596 ?_
  refine W.eq (g2 := F0 m 597 ls [.int (iI (xI xs (i + 3))), .int (iI (xI xs (i + 2))), .int (iI (xI xs (i + 1))), .ref (ad 27)]) rfl ?_
  obtain ⟨P2, g2, h⟩ := h
  refine kc_vi (As := [.int (iI (xI xs (i + 1))), .int (iI (xI xs (i + 2))), .int (iI (xI xs (i + 3)))]) (rest := []) (ci := 8) (q0 := 27) S (c_M_fault l dC dI ad kc nn s1 (xI xs (i + 1)) (xI xs (i + 2)) (xI xs (i + 3)) g2) (cwV 3 hts (gV mw_903 mw_904 mw_905 mw_10 k_M_fault) rfl rfl rfl (by decide +kernel) ⟨Nat.le_of_ble_eq_true rfl, Nat.le_of_ble_eq_true rfl⟩) hK hN hA hW (fun _ => rfl) rfl rfl rfl hl.1 rfl (Nat.le_of_ble_eq_true rfl) dW_law_597 ⟨hc1, hs1⟩ (fun r2 s2 H locs hp hW => ?_)
  have h := h r2 s2 hp
  refine lv_istore (lv' := [(6, .int (iI r2)), (5, .int (iI r1)), (0, .ref b), (1, .ref (ad 0)), (2, .ref (ad 27)), (3, .ref (ad 26)), (4, .int (iI i))]) hx hb dW_law_600 hl (by decide) rfl (fun ls hl => ?_)
  refine lv_aload_n hx hb dW_law_602 rfl (lv_at hl 4 rfl) ?_
  refine kc_vp (As := []) (rest := []) (ci := 8) (q0 := 27) S (c_M_thrown l dC dI ad kc nn s2 (P := fun r => (s2 27 0) = r) rfl) (cwV 0 hts (gV mw_844 mw_845 mw_846 mw_10 k_M_thrown) rfl rfl rfl (by decide +kernel) ⟨Nat.le_of_ble_eq_true rfl, Nat.le_of_ble_eq_true rfl⟩) hK hN hW.1 rfl rfl rfl hl.1 rfl (Nat.le_of_ble_eq_true rfl) dW_law_603 ⟨hc1, hs1⟩ (fun r3 hp => ?_)
  subst hp
  refine lv_iload hx hb dW_law_606 (lv_at hl 1 rfl) ?_
  obtain ⟨q1, h⟩ := h
  obtain ⟨q2, h⟩ := h
  obtain ⟨ht, hf⟩ := h
  refine ki_icmp_eq (tgt := 613) hx hb dW_law_608 (by decide) q1 q2 (fun c1 => ?_) (fun c1 => ?_)
  · have h := ht c1
    refine lv_iload hx hb dW_law_613 (lv_at hl 1 rfl) ?_
    obtain ⟨q3, h⟩ := h
    obtain ⟨ht, hf⟩ := h
    refine ki_if_ne (tgt := 630) hx hb dW_law_615 (by decide) q3 (fun c2 => ?_) (fun c2 => ?_)
    · have h := ht c2
      refine lv_goto (tgt := 1251) hx hb dW_law_630 (by decide) ?_
      exact kK s2 _ _ ls h hW (lv_sub hl [2, 3, 4, 5, 6] rfl)
    · have h := hf c2
      refine lv_aload_n hx hb dW_law_618 rfl (lv_at hl 5 rfl) ?_
      refine lv_iconst (v := iI 0) hx hb dW_law_619 rfl ?_
      refine k_lald hx hb hK hW.1 26 18 (s2 26) rfl rfl ⟨by decide, by decide, by decide⟩ dW_law_620 ?_
      refine lv_iload hx hb dW_law_621 (lv_at hl 0 rfl) ?_
      obtain ⟨q4, h⟩ := h
      refine ki_i2l hx hb dW_law_623 q4 ?_
      obtain ⟨q5, h⟩ := h
      refine kl_cmp hx hb q5.1 q5.2 dW_law_624 ?_
      obtain ⟨ht, hf⟩ := h
      refine ki_if_eq (tgt := 630) hx hb dW_law_625 (by decide) (by constructor <;> (repeat' split) <;> decide) (fun c3 => ?_) (fun c3 => ?_)
      · have h := ht c3
        refine lv_goto (tgt := 1251) hx hb dW_law_630 (by decide) ?_
        exact kK s2 _ _ ls h hW (lv_sub hl [2, 3, 4, 5, 6] rfl)
      · have h := hf c3
        refine lv_iconst (v := iI 0) hx hb dW_law_628 rfl ?_
        exact False.elim h
  · have h := hf c1
    refine lv_iconst (v := iI 0) hx hb dW_law_611 rfl ?_
    exact False.elim h
set_option maxHeartbeats 4000000 in
set_option maxRecDepth 100000 in
theorem law_8 {p : Program} {l : Launch} {e : Env} {s : State} {m : MethodId} {below : List Frame} {meth : Method} {c : Code} {b L : Nat} {xs : Nat → Int32} {dC : Nat → ClassId} {dI : Nat → Nat → Nat} {ad : Nat → Nat} {kc : Nat → ClassId} {nn : Nat → Nat} (htr : l.stackTraces = false) (S : CallFix p m c code 7 s #[Value.ref b] (Cond.initialized "PeelRibbons" :: gG) R_W) (hX : va_X b L xs s s.heap) (hbl : b < s.heap.size) (hK : va_K (dC, dI) vwC (tyC kc) s) (hN : kNw nsG s) (hst : ∀ (H : Heap) (locs : List Loc), va_S (fun q : Nat => s.heap.size ≤ q) s.heap H locs → kSt s H) (hL : L ≤ 2562) {i : Int} (hi0 : 0 ≤ i) (hi4 : i + 4 < (L : Int)) {c0 s0 : Nat} (hc1 : c0 + 1 ≤ room_1.cells) (hs1 : s0 + 6 ≤ room_1.slots) {σ : kM} {K : kM → Prop} (h : wl_8 nn xs i σ K) {H : Heap} {locs : List Loc} {ls : Array Slot} (hW : kW (dC, dI) vwC (fun q : Nat => s.heap.size ≤ q) s.heap (wC ad kc nn σ) H locs) (hl : lv_has ls 7 [(0, .ref b), (1, .ref (ad 0)), (2, .ref (ad 27)), (3, .ref (ad 26)), (4, .int (iI i))])
    (kK : ∀ (σ' : kM) (H : Heap) (locs : List Loc) (ls : Array Slot), K σ' → kW (dC, dI) vwC (fun q : Nat => s.heap.size ≤ q) s.heap (wC ad kc nn σ') H locs → lv_has ls 7 [(0, .ref b), (1, .ref (ad 0)), (2, .ref (ad 27)), (3, .ref (ad 26)), (4, .int (iI i))] → W p l e room_1 s m #[Value.ref b] below meth c H locs (c0 + 1) (s0 + 6) (lw_Z below #[Value.ref b] s) (F0 m 1251 ls [])) : W p l e room_1 s m #[Value.ref b] below meth c H locs c0 s0 (lw_Z below #[Value.ref b] s) (F0 m 633 ls []) := by
  obtain ⟨hx, hb, hml, hown, hts⟩ := id S
  have hA : ∀ q : Nat, s.heap.size ≤ q → (fun q : Nat => s.heap.size ≤ q) q := fun _ h => h
  have hbA : ¬ (fun q : Nat => s.heap.size ≤ q) b := Nat.not_le.mpr hbl
  have hca : c0 ≤ room_1.cells := by omega
  have hsa : s0 ≤ room_1.slots := by omega
  unfold wl_8 at h
  refine lv_aload_n hx hb dW_law_633 rfl (lv_at hl 1 rfl) ?_
  refine lv_aload_n hx hb dW_law_634 rfl (lv_at hl 0 rfl) ?_
  refine lv_iload hx hb dW_law_635 (lv_at hl 4 rfl) ?_
  refine lv_iconst (v := iI 1) hx hb dW_law_637 rfl ?_
  refine ki_add hx hb dW_law_638 ?_
  refine k_sld hx hb hX hbl hbA hW.2.2 ⟨by omega, by omega, by omega⟩ dW_law_639 ?_
  refine W.eq (g2 := F0 m 640 ls [.int (iI (xI xs (i + 1))), .ref (ad 0)]) rfl ?_
  refine lv_aload_n hx hb dW_law_640 rfl (lv_at hl 3 rfl) ?_
  obtain ⟨P1, g1, h⟩ := h
  refine kc_sh (n := 3) (As := [.ref (ad 0), .int (iI (xI xs (i + 1))), .ref (ad 26)]) (rest := []) S (c_W_unrolled l htr dC dI ad kc nn σ (xI xs (i + 1)) g1) rfl rfl ⟨Nat.le_of_ble_eq_true rfl, Nat.le_of_ble_eq_true rfl⟩ (gG_good k_W_unrolled) List.mem_cons_self (hts _ (gG_in mw_536)) (hts _ (gG_in mw_537)) (hts _ (gG_in mw_0)) (by decide +kernel) hK hN (hst H locs hW.2.2) hA hW (fun _ => rfl) rfl hl.1 rfl (Nat.le_of_ble_eq_true rfl) dW_law_641 ⟨hc1, hs1⟩ (fun r1 s1 H locs hp hW => ?_)
  have h := h r1 s1 hp
  refine lv_istore (lv' := [(5, .int (iI r1)), (0, .ref b), (1, .ref (ad 0)), (2, .ref (ad 27)), (3, .ref (ad 26)), (4, .int (iI i))]) hx hb dW_law_644 hl (by decide) rfl (fun ls hl => ?_)
  refine lv_aload_n hx hb dW_law_646 rfl (lv_at hl 3 rfl) ?_
  refine lv_aload_n hx hb dW_law_647 rfl (lv_at hl 1 rfl) ?_
  refine lv_iload hx hb dW_law_648 (lv_at hl 5 rfl) ?_
  refine lv_iconst (v := iI 1) hx hb dW_law_650 rfl ?_
  refine ki_add hx hb dW_law_651 ?_
  refine k_sld hx hb hX hbl hbA hW.2.2 ⟨by omega, by omega, by omega⟩ dW_law_652 ?_
  refine W.eq (g2 := F0 m 653 ls [.int (iI (xI xs (i + 1))), .ref (ad 27)]) rfl ?_
  obtain ⟨P2, g2, h⟩ := h
  refine kc_vi (As := [.int (iI (xI xs (i + 1)))]) (rest := []) (ci := 8) (q0 := 27) S (c_M_unrolled l dC dI ad kc nn s1 (xI xs (i + 1)) g2) (cwV 1 hts (gV mw_907 mw_908 mw_909 mw_10 k_M_unrolled) rfl rfl rfl (by decide +kernel) ⟨Nat.le_of_ble_eq_true rfl, Nat.le_of_ble_eq_true rfl⟩) hK hN hA hW (fun _ => rfl) rfl rfl rfl hl.1 rfl (Nat.le_of_ble_eq_true rfl) dW_law_653 ⟨hc1, hs1⟩ (fun r2 s2 H locs hp hW => ?_)
  have h := h r2 s2 hp
  refine lv_istore (lv' := [(6, .int (iI r2)), (5, .int (iI r1)), (0, .ref b), (1, .ref (ad 0)), (2, .ref (ad 27)), (3, .ref (ad 26)), (4, .int (iI i))]) hx hb dW_law_656 hl (by decide) rfl (fun ls hl => ?_)
  refine lv_aload_n hx hb dW_law_658 rfl (lv_at hl 4 rfl) ?_
  refine kc_vp (As := []) (rest := []) (ci := 8) (q0 := 27) S (c_M_thrown l dC dI ad kc nn s2 (P := fun r => (s2 27 0) = r) rfl) (cwV 0 hts (gV mw_844 mw_845 mw_846 mw_10 k_M_thrown) rfl rfl rfl (by decide +kernel) ⟨Nat.le_of_ble_eq_true rfl, Nat.le_of_ble_eq_true rfl⟩) hK hN hW.1 rfl rfl rfl hl.1 rfl (Nat.le_of_ble_eq_true rfl) dW_law_659 ⟨hc1, hs1⟩ (fun r3 hp => ?_)
  subst hp
  refine lv_iload hx hb dW_law_662 (lv_at hl 1 rfl) ?_
  obtain ⟨q1, h⟩ := h
  obtain ⟨q2, h⟩ := h
  obtain ⟨ht, hf⟩ := h
  refine ki_icmp_eq (tgt := 669) hx hb dW_law_664 (by decide) q1 q2 (fun c1 => ?_) (fun c1 => ?_)
  · have h := ht c1
    refine lv_iload hx hb dW_law_669 (lv_at hl 1 rfl) ?_
    obtain ⟨q3, h⟩ := h
    obtain ⟨ht, hf⟩ := h
    refine ki_if_ne (tgt := 686) hx hb dW_law_671 (by decide) q3 (fun c2 => ?_) (fun c2 => ?_)
    · have h := ht c2
      refine lv_goto (tgt := 1251) hx hb dW_law_686 (by decide) ?_
      exact kK s2 _ _ ls h hW (lv_sub hl [2, 3, 4, 5, 6] rfl)
    · have h := hf c2
      refine lv_aload_n hx hb dW_law_674 rfl (lv_at hl 5 rfl) ?_
      refine lv_iconst (v := iI 0) hx hb dW_law_675 rfl ?_
      refine k_lald hx hb hK hW.1 26 18 (s2 26) rfl rfl ⟨by decide, by decide, by decide⟩ dW_law_676 ?_
      refine lv_iload hx hb dW_law_677 (lv_at hl 0 rfl) ?_
      obtain ⟨q4, h⟩ := h
      refine ki_i2l hx hb dW_law_679 q4 ?_
      obtain ⟨q5, h⟩ := h
      refine kl_cmp hx hb q5.1 q5.2 dW_law_680 ?_
      obtain ⟨ht, hf⟩ := h
      refine ki_if_eq (tgt := 686) hx hb dW_law_681 (by decide) (by constructor <;> (repeat' split) <;> decide) (fun c3 => ?_) (fun c3 => ?_)
      · have h := ht c3
        refine lv_goto (tgt := 1251) hx hb dW_law_686 (by decide) ?_
        exact kK s2 _ _ ls h hW (lv_sub hl [2, 3, 4, 5, 6] rfl)
      · have h := hf c3
        refine lv_iconst (v := iI 0) hx hb dW_law_684 rfl ?_
        exact False.elim h
  · have h := hf c1
    refine lv_iconst (v := iI 0) hx hb dW_law_667 rfl ?_
    exact False.elim h
