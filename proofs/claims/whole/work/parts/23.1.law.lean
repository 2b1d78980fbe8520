set_option maxHeartbeats 4000000 in
set_option maxRecDepth 100000 in
theorem law_9 {p : Program} {l : Launch} {e : Env} {s : State} {m : MethodId} {below : List Frame} {meth : Method} {c : Code} {b L : Nat} {xs : Nat → Int32} {dC : Nat → ClassId} {dI : Nat → Nat → Nat} {ad : Nat → Nat} {kc : Nat → ClassId} {nn : Nat → Nat} (htr : l.stackTraces = false) (S : CallFix p m c code 7 s #[Value.ref b] (Cond.initialized "PeelRibbons" :: gG) R_W) (hX : va_X b L xs s s.heap) (hbl : b < s.heap.size) (hK : va_K (dC, dI) vwC (tyC kc) s) (hN : kNw nsG s) (hst : ∀ (H : Heap) (locs : List Loc), va_S (fun q : Nat => s.heap.size ≤ q) s.heap H locs → kSt s H) (hL : L ≤ 2562) {i : Int} (hi0 : 0 ≤ i) (hi4 : i + 4 < (L : Int)) {c0 s0 : Nat} (hc1 : c0 + 1 ≤ room_1.cells) (hs1 : s0 + 6 ≤ room_1.slots) {σ : kM} {K : kM → Prop} (h : wl_9 nn xs i σ K) {H : Heap} {locs : List Loc} {ls : Array Slot} (hW : kW (dC, dI) vwC (fun q : Nat => s.heap.size ≤ q) s.heap (wC ad kc nn σ) H locs) (hl : lv_has ls 7 [(0, .ref b), (1, .ref (ad 0)), (2, .ref (ad 27)), (3, .ref (ad 26)), (4, .int (iI i))])
    (kK : ∀ (σ' : kM) (H : Heap) (locs : List Loc) (ls : Array Slot), K σ' → kW (dC, dI) vwC (fun q : Nat => s.heap.size ≤ q) s.heap (wC ad kc nn σ') H locs → lv_has ls 7 [(0, .ref b), (1, .ref (ad 0)), (2, .ref (ad 27)), (3, .ref (ad 26)), (4, .int (iI i))] → W p l e room_1 s m #[Value.ref b] below meth c H locs (c0 + 1) (s0 + 6) (lw_Z below #[Value.ref b] s) (F0 m 1251 ls [])) : W p l e room_1 s m #[Value.ref b] below meth c H locs c0 s0 (lw_Z below #[Value.ref b] s) (F0 m 689 ls []) := by
  obtain ⟨hx, hb, hml, hown, hts⟩ := id S
  have hA : ∀ q : Nat, s.heap.size ≤ q → (fun q : Nat => s.heap.size ≤ q) q := fun _ h => h
  have hbA : ¬ (fun q : Nat => s.heap.size ≤ q) b := Nat.not_le.mpr hbl
  have hca : c0 ≤ room_1.cells := by omega
  have hsa : s0 ≤ room_1.slots := by omega
  unfold wl_9 at h
  refine lv_aload_n hx hb dW_law_689 rfl (lv_at hl 1 rfl) ?_
  refine lv_aload_n hx hb dW_law_690 rfl (lv_at hl 0 rfl) ?_
  refine lv_iload hx hb dW_law_691 (lv_at hl 4 rfl) ?_
  refine lv_iconst (v := iI 1) hx hb dW_law_693 rfl ?_
  refine ki_add hx hb dW_law_694 ?_
  refine k_sld hx hb hX hbl hbA hW.2.2 ⟨by omega, by omega, by omega⟩ dW_law_695 ?_
  refine W.eq (g2 := F0 m 696 ls [.int (iI (xI xs (i + 1))), .ref (ad 0)]) rfl ?_
  refine lv_aload_n hx hb dW_law_696 rfl (lv_at hl 0 rfl) ?_
  refine lv_iload hx hb dW_law_697 (lv_at hl 4 rfl) ?_
  refine lv_iconst (v := iI 2) hx hb dW_law_699 rfl ?_
  refine ki_add hx hb dW_law_700 ?_
  refine k_sld hx hb hX hbl hbA hW.2.2 ⟨by omega, by omega, by omega⟩ dW_law_701 ?_
  refine W.eq (g2 := F0 m 702 ls [.int (iI (xI xs (i + 2))), .int (iI (xI xs (i + 1))), .ref (ad 0)]) rfl ?_
  refine lv_aload_n hx hb dW_law_702 rfl (lv_at hl 3 rfl) ?_
  obtain ⟨P1, g1, h⟩ := h
  refine kc_sh (n := 4) (As := [.ref (ad 0), .int (iI (xI xs (i + 1))), .int (iI (xI xs (i + 2))), .ref (ad 26)]) (rest := []) S (c_W_leaf l htr dC dI ad kc nn σ (xI xs (i + 1)) (xI xs (i + 2)) g1) rfl rfl ⟨Nat.le_of_ble_eq_true rfl, Nat.le_of_ble_eq_true rfl⟩ (gG_good k_W_leaf) List.mem_cons_self (hts _ (gG_in mw_558)) (hts _ (gG_in mw_559)) (hts _ (gG_in mw_0)) (by decide +kernel) hK hN (hst H locs hW.2.2) hA hW (fun _ => rfl) rfl hl.1 rfl (Nat.le_of_ble_eq_true rfl) dW_law_703 ⟨hc1, hs1⟩ (fun r1 s1 H locs hp hW => ?_)
  have h := h r1 s1 hp
  refine lv_istore (lv' := [(5, .int (iI r1)), (0, .ref b), (1, .ref (ad 0)), (2, .ref (ad 27)), (3, .ref (ad 26)), (4, .int (iI i))]) hx hb dW_law_706 hl (by decide) rfl (fun ls hl => ?_)
  refine lv_aload_n hx hb dW_law_708 rfl (lv_at hl 3 rfl) ?_
  refine lv_aload_n hx hb dW_law_709 rfl (lv_at hl 1 rfl) ?_
  refine lv_iload hx hb dW_law_710 (lv_at hl 5 rfl) ?_
  refine lv_iconst (v := iI 1) hx hb dW_law_712 rfl ?_
  refine ki_add hx hb dW_law_713 ?_
  refine k_sld hx hb hX hbl hbA hW.2.2 ⟨by omega, by omega, by omega⟩ dW_law_714 ?_
  refine W.eq (g2 := F0 m 715 ls [.int (iI (xI xs (i + 1))), .ref (ad 27)]) rfl ?_
  refine lv_aload_n hx hb dW_law_715 rfl (lv_at hl 1 rfl) ?_
  refine lv_iload hx hb dW_law_716 (lv_at hl 5 rfl) ?_
  refine lv_iconst (v := iI 2) hx hb dW_law_718 rfl ?_
  refine ki_add hx hb dW_law_719 ?_
  refine k_sld hx hb hX hbl hbA hW.2.2 ⟨by omega, by omega, by omega⟩ dW_law_720 ?_
  refine W.eq (g2 := F0 m 721 ls [.int (iI (xI xs (i + 2))), .int (iI (xI xs (i + 1))), .ref (ad 27)]) rfl ?_
  obtain ⟨P2, g2, h⟩ := h
  refine kc_vi (As := [.int (iI (xI xs (i + 1))), .int (iI (xI xs (i + 2)))]) (rest := []) (ci := 8) (q0 := 27) S (c_M_leaf l dC dI ad kc nn s1 (xI xs (i + 1)) (xI xs (i + 2)) g2) (cwV 2 hts (gV mw_915 mw_916 mw_917 mw_10 k_M_leaf) rfl rfl rfl (by decide +kernel) ⟨Nat.le_of_ble_eq_true rfl, Nat.le_of_ble_eq_true rfl⟩) hK hN hA hW (fun _ => rfl) rfl rfl rfl hl.1 rfl (Nat.le_of_ble_eq_true rfl) dW_law_721 ⟨hc1, hs1⟩ (fun r2 s2 H locs hp hW => ?_)
  have h := h r2 s2 hp
  refine lv_istore (lv' := [(6, .int (iI r2)), (5, .int (iI r1)), (0, .ref b), (1, .ref (ad 0)), (2, .ref (ad 27)), (3, .ref (ad 26)), (4, .int (iI i))]) hx hb dW_law_724 hl (by decide) rfl (fun ls hl => ?_)
  refine lv_aload_n hx hb dW_law_726 rfl (lv_at hl 4 rfl) ?_
  refine kc_vp (As := []) (rest := []) (ci := 8) (q0 := 27) S (c_M_thrown l dC dI ad kc nn s2 (P := fun r => (s2 27 0) = r) rfl) (cwV 0 hts (gV mw_844 mw_845 mw_846 mw_10 k_M_thrown) rfl rfl rfl (by decide +kernel) ⟨Nat.le_of_ble_eq_true rfl, Nat.le_of_ble_eq_true rfl⟩) hK hN hW.1 rfl rfl rfl hl.1 rfl (Nat.le_of_ble_eq_true rfl) dW_law_727 ⟨hc1, hs1⟩ (fun r3 hp => ?_)
  subst hp
  refine lv_iload hx hb dW_law_730 (lv_at hl 1 rfl) ?_
  obtain ⟨q1, h⟩ := h
  obtain ⟨q2, h⟩ := h
  obtain ⟨ht, hf⟩ := h
  refine ki_icmp_eq (tgt := 737) hx hb dW_law_732 (by decide) q1 q2 (fun c1 => ?_) (fun c1 => ?_)
  · have h := ht c1
    refine lv_iload hx hb dW_law_737 (lv_at hl 1 rfl) ?_
    obtain ⟨q3, h⟩ := h
    obtain ⟨ht, hf⟩ := h
    refine ki_if_ne (tgt := 754) hx hb dW_law_739 (by decide) q3 (fun c2 => ?_) (fun c2 => ?_)
    · have h := ht c2
      refine lv_goto (tgt := 1251) hx hb dW_law_754 (by decide) ?_
      exact kK s2 _ _ ls h hW (lv_sub hl [2, 3, 4, 5, 6] rfl)
    · have h := hf c2
      refine lv_aload_n hx hb dW_law_742 rfl (lv_at hl 5 rfl) ?_
      refine lv_iconst (v := iI 0) hx hb dW_law_743 rfl ?_
      refine k_lald hx hb hK hW.1 26 18 (s2 26) rfl rfl ⟨by decide, by decide, by decide⟩ dW_law_744 ?_
      refine lv_iload hx hb dW_law_745 (lv_at hl 0 rfl) ?_
      obtain ⟨q4, h⟩ := h
      refine ki_i2l hx hb dW_law_747 q4 ?_
      obtain ⟨q5, h⟩ := h
      refine kl_cmp hx hb q5.1 q5.2 dW_law_748 ?_
      obtain ⟨ht, hf⟩ := h
      refine ki_if_eq (tgt := 754) hx hb dW_law_749 (by decide) (by constructor <;> (repeat' split) <;> decide) (fun c3 => ?_) (fun c3 => ?_)
      · have h := ht c3
        refine lv_goto (tgt := 1251) hx hb dW_law_754 (by decide) ?_
        exact kK s2 _ _ ls h hW (lv_sub hl [2, 3, 4, 5, 6] rfl)
      · have h := hf c3
        refine lv_iconst (v := iI 0) hx hb dW_law_752 rfl ?_
        exact False.elim h
  · have h := hf c1
    refine lv_iconst (v := iI 0) hx hb dW_law_735 rfl ?_
    exact False.elim h
set_option maxHeartbeats 4000000 in
set_option maxRecDepth 100000 in
theorem law_10 {p : Program} {l : Launch} {e : Env} {s : State} {m : MethodId} {below : List Frame} {meth : Method} {c : Code} {b L : Nat} {xs : Nat → Int32} {dC : Nat → ClassId} {dI : Nat → Nat → Nat} {ad : Nat → Nat} {kc : Nat → ClassId} {nn : Nat → Nat} (htr : l.stackTraces = false) (S : CallFix p m c code 7 s #[Value.ref b] (Cond.initialized "PeelRibbons" :: gG) R_W) (hX : va_X b L xs s s.heap) (hbl : b < s.heap.size) (hK : va_K (dC, dI) vwC (tyC kc) s) (hN : kNw nsG s) (hst : ∀ (H : Heap) (locs : List Loc), va_S (fun q : Nat => s.heap.size ≤ q) s.heap H locs → kSt s H) (hL : L ≤ 2562) {i : Int} (hi0 : 0 ≤ i) (hi4 : i + 4 < (L : Int)) {c0 s0 : Nat} (hc1 : c0 + 1 ≤ room_1.cells) (hs1 : s0 + 6 ≤ room_1.slots) {σ : kM} {K : kM → Prop} (h : wl_10 nn xs i σ K) {H : Heap} {locs : List Loc} {ls : Array Slot} (hW : kW (dC, dI) vwC (fun q : Nat => s.heap.size ≤ q) s.heap (wC ad kc nn σ) H locs) (hl : lv_has ls 7 [(0, .ref b), (1, .ref (ad 0)), (2, .ref (ad 27)), (3, .ref (ad 26)), (4, .int (iI i))])
    (kK : ∀ (σ' : kM) (H : Heap) (locs : List Loc) (ls : Array Slot), K σ' → kW (dC, dI) vwC (fun q : Nat => s.heap.size ≤ q) s.heap (wC ad kc nn σ') H locs → lv_has ls 7 [(0, .ref b), (1, .ref (ad 0)), (2, .ref (ad 27)), (3, .ref (ad 26)), (4, .int (iI i))] → W p l e room_1 s m #[Value.ref b] below meth c H locs (c0 + 1) (s0 + 6) (lw_Z below #[Value.ref b] s) (F0 m 1251 ls [])) : W p l e room_1 s m #[Value.ref b] below meth c H locs c0 s0 (lw_Z below #[Value.ref b] s) (F0 m 757 ls []) := by
  obtain ⟨hx, hb, hml, hown, hts⟩ := id S
  have hA : ∀ q : Nat, s.heap.size ≤ q → (fun q : Nat => s.heap.size ≤ q) q := fun _ h => h
  have hbA : ¬ (fun q : Nat => s.heap.size ≤ q) b := Nat.not_le.mpr hbl
  have hca : c0 ≤ room_1.cells := by omega
  have hsa : s0 ≤ room_1.slots := by omega
  unfold wl_10 at h
  refine lv_aload_n hx hb dW_law_757 rfl (lv_at hl 1 rfl) ?_
  refine lv_aload_n hx hb dW_law_758 rfl (lv_at hl 0 rfl) ?_
  refine lv_iload hx hb dW_law_759 (lv_at hl 4 rfl) ?_
  refine lv_iconst (v := iI 1) hx hb dW_law_761 rfl ?_
  refine ki_add hx hb dW_law_762 ?_
  refine k_sld hx hb hX hbl hbA hW.2.2 ⟨by omega, by omega, by omega⟩ dW_law_763 ?_
  refine W.eq (g2 := F0 m 764 ls [.int (iI (xI xs (i + 1))), .ref (ad 0)]) rfl ?_
  refine lv_aload_n hx hb dW_law_764 rfl (lv_at hl 0 rfl) ?_
  refine lv_iload hx hb dW_law_765 (lv_at hl 4 rfl) ?_
  refine lv_iconst (v := iI 2) hx hb dW_law_767 rfl ?_
  refine ki_add hx hb dW_law_768 ?_
  refine k_sld hx hb hX hbl hbA hW.2.2 ⟨by omega, by omega, by omega⟩ dW_law_769 ?_
  refine W.eq (g2 := F0 m 770 ls [.int (iI (xI xs (i + 2))), .int (iI (xI xs (i + 1))), .ref (ad 0)]) rfl ?_
  refine lv_aload_n hx hb dW_law_770 rfl (lv_at hl 0 rfl) ?_
  refine lv_iload hx hb dW_law_771 (lv_at hl 4 rfl) ?_
  refine lv_iconst (v := iI 3) hx hb dW_law_773 rfl ?_
  refine ki_add hx hb dW_law_774 ?_
  refine k_sld hx hb hX hbl hbA hW.2.2 ⟨by omega, by omega, by omega⟩ dW_law_775 ?_
  refine W.eq (g2 := F0 m 776 ls [.int (iI (xI xs (i + 3))), .int (iI (xI xs (i + 2))), .int (iI (xI xs (i + 1))), .ref (ad 0)]) rfl ?_
  obtain ⟨q1, h⟩ := h
  have jW3 : ∀ (v1 : Int) (H : Heap) (locs : List Loc) (ls : Array Slot), kW (dC, dI) vwC (fun q : Nat => s.heap.size ≤ q) s.heap (wC ad kc nn σ) H locs → lv_has ls 7 [(0, .ref b), (1, .ref (ad 0)), (2, .ref (ad 27)), (3, .ref (ad 26)), (4, .int (iI i))] → jn_law10_784 nn σ xs i K v1 → W p l e room_1 s m #[Value.ref b] below meth c H locs c0 s0 (lw_Z below #[Value.ref b] s) (F0 m 784 ls [.int (iI v1), .int (iI (xI xs (i + 2))), .int (iI (xI xs (i + 1))), .ref (ad 0)]) := by
    intro v1 H locs ls hW hl h
    unfold jn_law10_784 at h
    refine lv_aload_n hx hb dW_law_784 rfl (lv_at hl 3 rfl) ?_
    obtain ⟨P1, g1, h⟩ := h
    refine kc_sh (n := 5) (As := [.ref (ad 0), .int (iI (xI xs (i + 1))), .int (iI (xI xs (i + 2))), .int (iI v1), .ref (ad 26)]) (rest := []) S (c_W_bars l htr dC dI ad kc nn σ (xI xs (i + 1)) (xI xs (i + 2)) v1 g1) rfl rfl ⟨Nat.le_of_ble_eq_true rfl, Nat.le_of_ble_eq_true rfl⟩ (gG_good k_W_bars) List.mem_cons_self (hts _ (gG_in mw_576)) (hts _ (gG_in mw_577)) (hts _ (gG_in mw_0)) (by decide +kernel) hK hN (hst H locs hW.2.2) hA hW (fun _ => rfl) rfl hl.1 rfl (Nat.le_of_ble_eq_true rfl) dW_law_785 ⟨hc1, hs1⟩ (fun r1 s1 H locs hp hW => ?_)
    have h := h r1 s1 hp
    refine lv_istore (lv' := [(5, .int (iI r1)), (0, .ref b), (1, .ref (ad 0)), (2, .ref (ad 27)), (3, .ref (ad 26)), (4, .int (iI i))]) hx hb dW_law_788 hl (by decide) rfl (fun ls hl => ?_)
    refine lv_aload_n hx hb dW_law_790 rfl (lv_at hl 3 rfl) ?_
    refine lv_aload_n hx hb dW_law_791 rfl (lv_at hl 1 rfl) ?_
    refine lv_iload hx hb dW_law_792 (lv_at hl 5 rfl) ?_
    refine lv_iconst (v := iI 1) hx hb dW_law_794 rfl ?_
    refine ki_add hx hb dW_law_795 ?_
    refine k_sld hx hb hX hbl hbA hW.2.2 ⟨by omega, by omega, by omega⟩ dW_law_796 ?_
    refine W.eq (g2 := F0 m 797 ls [.int (iI (xI xs (i + 1))), .ref (ad 27)]) rfl ?_
    refine lv_aload_n hx hb dW_law_797 rfl (lv_at hl 1 rfl) ?_
    refine lv_iload hx hb dW_law_798 (lv_at hl 5 rfl) ?_
    refine lv_iconst (v := iI 2) hx hb dW_law_800 rfl ?_
    refine ki_add hx hb dW_law_801 ?_
    refine k_sld hx hb hX hbl hbA hW.2.2 ⟨by omega, by omega, by omega⟩ dW_law_802 ?_
    refine W.eq (g2 := F0 m 803 ls [.int (iI (xI xs (i + 2))), .int (iI (xI xs (i + 1))), .ref (ad 27)]) rfl ?_
    refine lv_aload_n hx hb dW_law_803 rfl (lv_at hl 1 rfl) ?_
    refine lv_iload hx hb dW_law_804 (lv_at hl 5 rfl) ?_
    refine lv_iconst (v := iI 3) hx hb dW_law_806 rfl ?_
    refine ki_add hx hb dW_law_807 ?_
    refine k_sld hx hb hX hbl hbA hW.2.2 ⟨by omega, by omega, by omega⟩ dW_law_808 ?_
    refine W.eq (g2 := F0 m 809 ls [.int (iI (xI xs (i + 3))), .int (iI (xI xs (i + 2))), .int (iI (xI xs (i + 1))), .ref (ad 27)]) rfl ?_
    obtain ⟨q2, h⟩ := h
    have jW2 : ∀ (v2 : Int) (H : Heap) (locs : List Loc) (ls : Array Slot), kW (dC, dI) vwC (fun q : Nat => s.heap.size ≤ q) s.heap (wC ad kc nn s1) H locs → lv_has ls 7 [(5, .int (iI r1)), (0, .ref b), (1, .ref (ad 0)), (2, .ref (ad 27)), (3, .ref (ad 26)), (4, .int (iI i))] → jn_law10_817 nn xs i K r1 s1 v2 → W p l e room_1 s m #[Value.ref b] below meth c H locs (c0 + 1) (s0 + 6) (lw_Z below #[Value.ref b] s) (F0 m 817 ls [.int (iI v2), .int (iI (xI xs (i + 2))), .int (iI (xI xs (i + 1))), .ref (ad 27)]) := by
      intro v2 H locs ls hW hl h
      unfold jn_law10_817 at h
      obtain ⟨P2, g2, h⟩ := h
      refine kc_vi (As := [.int (iI (xI xs (i + 1))), .int (iI (xI xs (i + 2))), .int (iI v2)]) (rest := []) (ci := 8) (q0 := 27) S (c_M_bars l dC dI ad kc nn s1 (xI xs (i + 1)) (xI xs (i + 2)) v2 g2) (cwV 3 hts (gV mw_919 mw_920 mw_921 mw_10 k_M_bars) rfl rfl rfl (by decide +kernel) ⟨Nat.le_of_ble_eq_true rfl, Nat.le_of_ble_eq_true rfl⟩) hK hN hA hW (fun _ => rfl) rfl rfl rfl hl.1 rfl (Nat.le_of_ble_eq_true rfl) dW_law_817 ⟨hc1, hs1⟩ (fun r2 s2 H locs hp hW => ?_)
      have h := h r2 s2 hp
      refine lv_istore (lv' := [(6, .int (iI r2)), (5, .int (iI r1)), (0, .ref b), (1, .ref (ad 0)), (2, .ref (ad 27)), (3, .ref (ad 26)), (4, .int (iI i))]) hx hb dW_law_820 hl (by decide) rfl (fun ls hl => ?_)
      refine lv_aload_n hx hb dW_law_822 rfl (lv_at hl 4 rfl) ?_
      refine kc_vp (As := []) (rest := []) (ci := 8) (q0 := 27) S (c_M_thrown l dC dI ad kc nn s2 (P := fun r => (s2 27 0) = r) rfl) (cwV 0 hts (gV mw_844 mw_845 mw_846 mw_10 k_M_thrown) rfl rfl rfl (by decide +kernel) ⟨Nat.le_of_ble_eq_true rfl, Nat.le_of_ble_eq_true rfl⟩) hK hN hW.1 rfl rfl rfl hl.1 rfl (Nat.le_of_ble_eq_true rfl) dW_law_823 ⟨hc1, hs1⟩ (fun r3 hp => ?_)
      subst hp
      refine lv_iload hx hb dW_law_826 (lv_at hl 1 rfl) ?_
      obtain ⟨q3, h⟩ := h
      obtain ⟨q4, h⟩ := h
      obtain ⟨ht, hf⟩ := h
      refine ki_icmp_eq (tgt := 833) hx hb dW_law_828 (by decide) q3 q4 (fun c1 => ?_) (fun c1 => ?_)
      · have h := ht c1
        refine lv_iload hx hb dW_law_833 (lv_at hl 1 rfl) ?_
        obtain ⟨q5, h⟩ := h
        obtain ⟨ht, hf⟩ := h
        refine ki_if_ne (tgt := 857) hx hb dW_law_835 (by decide) q5 (fun c2 => ?_) (fun c2 => ?_)
        · have h := ht c2
          refine lv_goto (tgt := 1251) hx hb dW_law_857 (by decide) ?_
          exact kK s2 _ _ ls h hW (lv_sub hl [2, 3, 4, 5, 6] rfl)
        · have h := hf c2
          refine lv_aload_n hx hb dW_law_838 rfl (lv_at hl 5 rfl) ?_
          refine lv_iconst (v := iI 0) hx hb dW_law_839 rfl ?_
          refine k_lald hx hb hK hW.1 26 18 (s2 26) rfl rfl ⟨by decide, by decide, by decide⟩ dW_law_840 ?_
          refine lv_iload hx hb dW_law_841 (lv_at hl 0 rfl) ?_
          obtain ⟨q6, h⟩ := h
          have jW1 : ∀ (v3 : Int) (H : Heap) (locs : List Loc) (ls : Array Slot), kW (dC, dI) vwC (fun q : Nat => s.heap.size ≤ q) s.heap (wC ad kc nn s2) H locs → lv_has ls 7 [(0, .ref b), (1, .ref (ad 0)), (2, .ref (ad 27)), (3, .ref (ad 26)), (4, .int (iI i))] → jn_law10_851 nn K s2 v3 → W p l e room_1 s m #[Value.ref b] below meth c H locs (c0 + 1) (s0 + 6) (lw_Z below #[Value.ref b] s) (F0 m 851 ls [.long (lI v3), .long (lI (s2 26 0))]) := by
            intro v3 H locs ls hW hl h
            unfold jn_law10_851 at h
            obtain ⟨q7, h⟩ := h
            refine kl_cmp hx hb q7.1 q7.2 dW_law_851 ?_
            obtain ⟨ht, hf⟩ := h
            refine ki_if_eq (tgt := 857) hx hb dW_law_852 (by decide) (by constructor <;> (repeat' split) <;> decide) (fun c3 => ?_) (fun c3 => ?_)
            · have h := ht c3
              refine lv_goto (tgt := 1251) hx hb dW_law_857 (by decide) ?_
              exact kK s2 _ _ ls h hW (lv_sub hl [0, 1, 2, 3, 4] rfl)
            · have h := hf c3
              refine lv_iconst (v := iI 0) hx hb dW_law_855 rfl ?_
              exact False.elim h
          obtain ⟨ht, hf⟩ := h
          refine ki_if_eq (tgt := 850) hx hb dW_law_843 (by decide) q6 (fun c4 => ?_) (fun c4 => ?_)
          · have h := ht c4
            refine lv_lconst (v := lI 0) hx hb dW_law_850 (by decide) ?_
            exact jW1 0 _ _ ls hW (lv_sub hl [2, 3, 4, 5, 6] rfl) h
          · have h := hf c4
            refine lv_lconst (v := lI 1) hx hb dW_law_846 (by decide) ?_
            refine lv_goto (tgt := 851) hx hb dW_law_847 (by decide) ?_
            exact jW1 1 _ _ ls hW (lv_sub hl [2, 3, 4, 5, 6] rfl) h
      · have h := hf c1
        refine lv_iconst (v := iI 0) hx hb dW_law_831 rfl ?_
        exact False.elim h
    obtain ⟨ht, hf⟩ := h
    refine ki_if_eq (tgt := 816) hx hb dW_law_809 (by decide) q2 (fun c5 => ?_) (fun c5 => ?_)
    · have h := ht c5
      refine lv_iconst (v := iI 0) hx hb dW_law_816 rfl ?_
      exact jW2 0 _ _ ls hW (lv_sub hl [0, 1, 2, 3, 4, 5] rfl) h
    · have h := hf c5
      refine lv_iconst (v := iI 1) hx hb dW_law_812 rfl ?_
      refine lv_goto (tgt := 817) hx hb dW_law_813 (by decide) ?_
      exact jW2 1 _ _ ls hW (lv_sub hl [0, 1, 2, 3, 4, 5] rfl) h
  obtain ⟨ht, hf⟩ := h
  refine ki_if_eq (tgt := 783) hx hb dW_law_776 (by decide) q1 (fun c6 => ?_) (fun c6 => ?_)
  · have h := ht c6
    refine lv_iconst (v := iI 0) hx hb dW_law_783 rfl ?_
    exact jW3 0 _ _ ls hW (lv_sub hl [0, 1, 2, 3, 4] rfl) h
  · have h := hf c6
    refine lv_iconst (v := iI 1) hx hb dW_law_779 rfl ?_
    refine lv_goto (tgt := 784) hx hb dW_law_780 (by decide) ?_
    exact jW3 1 _ _ ls hW (lv_sub hl [0, 1, 2, 3, 4] rfl) h
set_option maxHeartbeats 4000000 in
set_option maxRecDepth 100000 in
theorem law_11 {p : Program} {l : Launch} {e : Env} {s : State} {m : MethodId} {below : List Frame} {meth : Method} {c : Code} {b L : Nat} {xs : Nat → Int32} {dC : Nat → ClassId} {dI : Nat → Nat → Nat} {ad : Nat → Nat} {kc : Nat → ClassId} {nn : Nat → Nat} (htr : l.stackTraces = false) (S : CallFix p m c code 7 s #[Value.ref b] (Cond.initialized "PeelRibbons" :: gG) R_W) (hX : va_X b L xs s s.heap) (hbl : b < s.heap.size) (hK : va_K (dC, dI) vwC (tyC kc) s) (hN : kNw nsG s) (hst : ∀ (H : Heap) (locs : List Loc), va_S (fun q : Nat => s.heap.size ≤ q) s.heap H locs → kSt s H) (hL : L ≤ 2562) {i : Int} (hi0 : 0 ≤ i) (hi4 : i + 4 < (L : Int)) {c0 s0 : Nat} (hc1 : c0 + 1 ≤ room_1.cells) (hs1 : s0 + 6 ≤ room_1.slots) {σ : kM} {K : kM → Prop} (h : wl_11 nn xs i σ K) {H : Heap} {locs : List Loc} {ls : Array Slot} (hW : kW (dC, dI) vwC (fun q : Nat => s.heap.size ≤ q) s.heap (wC ad kc nn σ) H locs) (hl : lv_has ls 7 [(0, .ref b), (1, .ref (ad 0)), (2, .ref (ad 27)), (3, .ref (ad 26)), (4, .int (iI i))])
    (kK : ∀ (σ' : kM) (H : Heap) (locs : List Loc) (ls : Array Slot), K σ' → kW (dC, dI) vwC (fun q : Nat => s.heap.size ≤ q) s.heap (wC ad kc nn σ') H locs → lv_has ls 7 [(0, .ref b), (1, .ref (ad 0)), (2, .ref (ad 27)), (3, .ref (ad 26)), (4, .int (iI i))] → W p l e room_1 s m #[Value.ref b] below meth c H locs (c0 + 1) (s0 + 6) (lw_Z below #[Value.ref b] s) (F0 m 1251 ls [])) : W p l e room_1 s m #[Value.ref b] below meth c H locs c0 s0 (lw_Z below #[Value.ref b] s) (F0 m 860 ls []) := by
  obtain ⟨hx, hb, hml, hown, hts⟩ := id S
  have hA : ∀ q : Nat, s.heap.size ≤ q → (fun q : Nat => s.heap.size ≤ q) q := fun _ h => h
  have hbA : ¬ (fun q : Nat => s.heap.size ≤ q) b := Nat.not_le.mpr hbl
  have hca : c0 ≤ room_1.cells := by omega
  have hsa : s0 ≤ room_1.slots := by omega
  unfold wl_11 at h
  refine lv_aload_n hx hb dW_law_860 rfl (lv_at hl 1 rfl) ?_
  refine lv_aload_n hx hb dW_law_861 rfl (lv_at hl 0 rfl) ?_
  refine lv_iload hx hb dW_law_862 (lv_at hl 4 rfl) ?_
  refine lv_iconst (v := iI 1) hx hb dW_law_864 rfl ?_
  refine ki_add hx hb dW_law_865 ?_
  refine k_sld hx hb hX hbl hbA hW.2.2 ⟨by omega, by omega, by omega⟩ dW_law_866 ?_
  refine W.eq (g2 := F0 m 867 ls [.int (iI (xI xs (i + 1))), .ref (ad 0)]) rfl ?_
  refine lv_aload_n hx hb dW_law_867 rfl (lv_at hl 3 rfl) ?_
  obtain ⟨P1, g1, h⟩ := h
  refine kc_sh (n := 3) (As := [.ref (ad 0), .int (iI (xI xs (i + 1))), .ref (ad 26)]) (rest := []) S (c_W_clip l htr dC dI ad kc nn σ (xI xs (i + 1)) g1) rfl rfl ⟨Nat.le_of_ble_eq_true rfl, Nat.le_of_ble_eq_true rfl⟩ (gG_good k_W_clip) List.mem_cons_self (hts _ (gG_in mw_597)) (hts _ (gG_in mw_598)) (hts _ (gG_in mw_0)) (by decide +kernel) hK hN (hst H locs hW.2.2) hA hW (fun _ => rfl) rfl hl.1 rfl (Nat.le_of_ble_eq_true rfl) dW_law_868 ⟨hc1, hs1⟩ (fun r1 s1 H locs hp hW => ?_)
  have h := h r1 s1 hp
  refine lv_istore (lv' := [(5, .int (iI r1)), (0, .ref b), (1, .ref (ad 0)), (2, .ref (ad 27)), (3, .ref (ad 26)), (4, .int (iI i))]) hx hb dW_law_871 hl (by decide) rfl (fun ls hl => ?_)
  refine lv_aload_n hx hb dW_law_873 rfl (lv_at hl 3 rfl) ?_
  refine lv_aload_n hx hb dW_law_874 rfl (lv_at hl 1 rfl) ?_
  refine lv_iload hx hb dW_law_875 (lv_at hl 5 rfl) ?_
  refine lv_iconst (v := iI 1) hx hb dW_law_877 rfl ?_
  refine ki_add hx hb dW_law_878 ?_
  refine k_sld hx hb hX hbl hbA hW.2.2 ⟨by omega, by omega, by omega⟩ dW_law_879 ?_
  refine W.eq (g2 := F0 m 880 ls [.int (iI (xI xs (i + 1))), .ref (ad 27)]) rfl ?_
  obtain ⟨P2, g2, h⟩ := h
  refine kc_vi (As := [.int (iI (xI xs (i + 1)))]) (rest := []) (ci := 8) (q0 := 27) S (c_M_clip l dC dI ad kc nn s1 (xI xs (i + 1)) g2) (cwV 1 hts (gV mw_923 mw_924 mw_925 mw_10 k_M_clip) rfl rfl rfl (by decide +kernel) ⟨Nat.le_of_ble_eq_true rfl, Nat.le_of_ble_eq_true rfl⟩) hK hN hA hW (fun _ => rfl) rfl rfl rfl hl.1 rfl (Nat.le_of_ble_eq_true rfl) dW_law_880 ⟨hc1, hs1⟩ (fun r2 s2 H locs hp hW => ?_)
  have h := h r2 s2 hp
  refine lv_istore (lv' := [(6, .int (iI r2)), (5, .int (iI r1)), (0, .ref b), (1, .ref (ad 0)), (2, .ref (ad 27)), (3, .ref (ad 26)), (4, .int (iI i))]) hx hb dW_law_883 hl (by decide) rfl (fun ls hl => ?_)
  refine lv_aload_n hx hb dW_law_885 rfl (lv_at hl 4 rfl) ?_
  refine kc_vp (As := []) (rest := []) (ci := 8) (q0 := 27) S (c_M_thrown l dC dI ad kc nn s2 (P := fun r => (s2 27 0) = r) rfl) (cwV 0 hts (gV mw_844 mw_845 mw_846 mw_10 k_M_thrown) rfl rfl rfl (by decide +kernel) ⟨Nat.le_of_ble_eq_true rfl, Nat.le_of_ble_eq_true rfl⟩) hK hN hW.1 rfl rfl rfl hl.1 rfl (Nat.le_of_ble_eq_true rfl) dW_law_886 ⟨hc1, hs1⟩ (fun r3 hp => ?_)
  subst hp
  refine lv_iload hx hb dW_law_889 (lv_at hl 1 rfl) ?_
  obtain ⟨q1, h⟩ := h
  obtain ⟨q2, h⟩ := h
  obtain ⟨ht, hf⟩ := h
  refine ki_icmp_eq (tgt := 896) hx hb dW_law_891 (by decide) q1 q2 (fun c1 => ?_) (fun c1 => ?_)
  · have h := ht c1
    refine lv_iload hx hb dW_law_896 (lv_at hl 1 rfl) ?_
    obtain ⟨q3, h⟩ := h
    obtain ⟨ht, hf⟩ := h
    refine ki_if_ne (tgt := 913) hx hb dW_law_898 (by decide) q3 (fun c2 => ?_) (fun c2 => ?_)
    · have h := ht c2
      refine lv_goto (tgt := 1251) hx hb dW_law_913 (by decide) ?_
      exact kK s2 _ _ ls h hW (lv_sub hl [2, 3, 4, 5, 6] rfl)
    · have h := hf c2
      refine lv_aload_n hx hb dW_law_901 rfl (lv_at hl 5 rfl) ?_
      refine lv_iconst (v := iI 0) hx hb dW_law_902 rfl ?_
      refine k_lald hx hb hK hW.1 26 18 (s2 26) rfl rfl ⟨by decide, by decide, by decide⟩ dW_law_903 ?_
      refine lv_iload hx hb dW_law_904 (lv_at hl 0 rfl) ?_
      obtain ⟨q4, h⟩ := h
      refine ki_i2l hx hb dW_law_906 q4 ?_
      obtain ⟨q5, h⟩ := h
      refine kl_cmp hx hb q5.1 q5.2 dW_law_907 ?_
      obtain ⟨ht, hf⟩ := h
      refine ki_if_eq (tgt := 913) hx hb dW_law_908 (by decide) (by constructor <;> (repeat' split) <;> decide) (fun c3 => ?_) (fun c3 => ?_)
      · have h := ht c3
        refine lv_goto (tgt := 1251) hx hb dW_law_913 (by decide) ?_
        exact kK s2 _ _ ls h hW (lv_sub hl [2, 3, 4, 5, 6] rfl)
      · have h := hf c3
        refine lv_iconst (v := iI 0) hx hb dW_law_911 rfl ?_
        exact False.elim h
  · have h := hf c1
    refine lv_iconst (v := iI 0) hx hb dW_law_894 rfl ?_
    exact False.elim h
set_option maxHeartbeats 4000000 in
set_option maxRecDepth 100000 in
theorem law_12 {p : Program} {l : Launch} {e : Env} {s : State} {m : MethodId} {below : List Frame} {meth : Method} {c : Code} {b L : Nat} {xs : Nat → Int32} {dC : Nat → ClassId} {dI : Nat → Nat → Nat} {ad : Nat → Nat} {kc : Nat → ClassId} {nn : Nat → Nat} (htr : l.stackTraces = false) (S : CallFix p m c code 7 s #[Value.ref b] (Cond.initialized "PeelRibbons" :: gG) R_W) (hX : va_X b L xs s s.heap) (hbl : b < s.heap.size) (hK : va_K (dC, dI) vwC (tyC kc) s) (hN : kNw nsG s) (hst : ∀ (H : Heap) (locs : List Loc), va_S (fun q : Nat => s.heap.size ≤ q) s.heap H locs → kSt s H) (hL : L ≤ 2562) {i : Int} (hi0 : 0 ≤ i) (hi4 : i + 4 < (L : Int)) {c0 s0 : Nat} (hc1 : c0 + 1 ≤ room_1.cells) (hs1 : s0 + 6 ≤ room_1.slots) {σ : kM} {K : kM → Prop} (h : wl_12 nn xs i σ K) {H : Heap} {locs : List Loc} {ls : Array Slot} (hW : kW (dC, dI) vwC (fun q : Nat => s.heap.size ≤ q) s.heap (wC ad kc nn σ) H locs) (hl : lv_has ls 7 [(0, .ref b), (1, .ref (ad 0)), (2, .ref (ad 27)), (3, .ref (ad 26)), (4, .int (iI i))])
    (kK : ∀ (σ' : kM) (H : Heap) (locs : List Loc) (ls : Array Slot), K σ' → kW (dC, dI) vwC (fun q : Nat => s.heap.size ≤ q) s.heap (wC ad kc nn σ') H locs → lv_has ls 7 [(0, .ref b), (1, .ref (ad 0)), (2, .ref (ad 27)), (3, .ref (ad 26)), (4, .int (iI i))] → W p l e room_1 s m #[Value.ref b] below meth c H locs (c0 + 1) (s0 + 6) (lw_Z below #[Value.ref b] s) (F0 m 1251 ls [])) : W p l e room_1 s m #[Value.ref b] below meth c H locs c0 s0 (lw_Z below #[Value.ref b] s) (F0 m 916 ls []) := by
  obtain ⟨hx, hb, hml, hown, hts⟩ := id S
  have hA : ∀ q : Nat, s.heap.size ≤ q → (fun q : Nat => s.heap.size ≤ q) q := fun _ h => h
  have hbA : ¬ (fun q : Nat => s.heap.size ≤ q) b := Nat.not_le.mpr hbl
  have hca : c0 ≤ room_1.cells := by omega
  have hsa : s0 ≤ room_1.slots := by omega
  unfold wl_12 at h
  refine lv_aload_n hx hb dW_law_916 rfl (lv_at hl 1 rfl) ?_
  refine lv_aload_n hx hb dW_law_917 rfl (lv_at hl 0 rfl) ?_
  refine lv_iload hx hb dW_law_918 (lv_at hl 4 rfl) ?_
  refine lv_iconst (v := iI 1) hx hb dW_law_920 rfl ?_
  refine ki_add hx hb dW_law_921 ?_
  refine k_sld hx hb hX hbl hbA hW.2.2 ⟨by omega, by omega, by omega⟩ dW_law_922 ?_
  refine W.eq (g2 := F0 m 923 ls [.int (iI (xI xs (i + 1))), .ref (ad 0)]) rfl ?_
  refine lv_aload_n hx hb dW_law_923 rfl (lv_at hl 0 rfl) ?_
  refine lv_iload hx hb dW_law_924 (lv_at hl 4 rfl) ?_
  refine lv_iconst (v := iI 2) hx hb dW_law_926 rfl ?_
  refine ki_add hx hb dW_law_927 ?_
  refine k_sld hx hb hX hbl hbA hW.2.2 ⟨by omega, by omega, by omega⟩ dW_law_928 ?_
  refine W.eq (g2 := F0 m 929 ls [.int (iI (xI xs (i + 2))), .int (iI (xI xs (i + 1))), .ref (ad 0)]) rfl ?_
  refine lv_aload_n hx hb dW_law_929 rfl (lv_at hl 3 rfl) ?_
  obtain ⟨P1, g1, h⟩ := h
  refine kc_sh (n := 4) (As := [.ref (ad 0), .int (iI (xI xs (i + 1))), .int (iI (xI xs (i + 2))), .ref (ad 26)]) (rest := []) S (c_W_at l htr dC dI ad kc nn σ (xI xs (i + 1)) (xI xs (i + 2)) g1) rfl rfl ⟨Nat.le_of_ble_eq_true rfl, Nat.le_of_ble_eq_true rfl⟩ (gG_good k_W_at) List.mem_cons_self (hts _ (gG_in mw_662)) (hts _ (gG_in mw_663)) (hts _ (gG_in mw_0)) (by decide +kernel) hK hN (hst H locs hW.2.2) hA hW (fun _ => rfl) rfl hl.1 rfl (Nat.le_of_ble_eq_true rfl) dW_law_930 ⟨hc1, hs1⟩ (fun r1 s1 H locs hp hW => ?_)
  have h := h r1 s1 hp
  refine lv_istore (lv' := [(5, .int (iI r1)), (0, .ref b), (1, .ref (ad 0)), (2, .ref (ad 27)), (3, .ref (ad 26)), (4, .int (iI i))]) hx hb dW_law_933 hl (by decide) rfl (fun ls hl => ?_)
  refine lv_aload_n hx hb dW_law_935 rfl (lv_at hl 3 rfl) ?_
  refine lv_aload_n hx hb dW_law_936 rfl (lv_at hl 1 rfl) ?_
  refine lv_iload hx hb dW_law_937 (lv_at hl 5 rfl) ?_
  refine lv_iconst (v := iI 1) hx hb dW_law_939 rfl ?_
  refine ki_add hx hb dW_law_940 ?_
  refine k_sld hx hb hX hbl hbA hW.2.2 ⟨by omega, by omega, by omega⟩ dW_law_941 ?_
  refine W.eq (g2 := F0 m 942 ls [.int (iI (xI xs (i + 1))), .ref (ad 27)]) rfl ?_
  refine lv_aload_n hx hb dW_law_942 rfl (lv_at hl 1 rfl) ?_
  refine lv_iload hx hb dW_law_943 (lv_at hl 5 rfl) ?_
  refine lv_iconst (v := iI 2) hx hb dW_law_945 rfl ?_
  refine ki_add hx hb dW_law_946 ?_
  refine k_sld hx hb hX hbl hbA hW.2.2 ⟨by omega, by omega, by omega⟩ dW_law_947 ?_
  refine W.eq (g2 := F0 m 948 ls [.int (iI (xI xs (i + 2))), .int (iI (xI xs (i + 1))), .ref (ad 27)]) rfl ?_
  obtain ⟨P2, g2, h⟩ := h
  refine kc_vi (As := [.int (iI (xI xs (i + 1))), .int (iI (xI xs (i + 2)))]) (rest := []) (ci := 8) (q0 := 27) S (c_M_at l dC dI ad kc nn s1 (xI xs (i + 1)) (xI xs (i + 2)) g2) (cwV 2 hts (gV mw_935 mw_936 mw_937 mw_10 k_M_at) rfl rfl rfl (by decide +kernel) ⟨Nat.le_of_ble_eq_true rfl, Nat.le_of_ble_eq_true rfl⟩) hK hN hA hW (fun _ => rfl) rfl rfl rfl hl.1 rfl (Nat.le_of_ble_eq_true rfl) dW_law_948 ⟨hc1, hs1⟩ (fun r2 s2 H locs hp hW => ?_)
  have h := h r2 s2 hp
  refine lv_istore (lv' := [(6, .int (iI r2)), (5, .int (iI r1)), (0, .ref b), (1, .ref (ad 0)), (2, .ref (ad 27)), (3, .ref (ad 26)), (4, .int (iI i))]) hx hb dW_law_951 hl (by decide) rfl (fun ls hl => ?_)
  refine lv_aload_n hx hb dW_law_953 rfl (lv_at hl 4 rfl) ?_
  refine kc_vp (As := []) (rest := []) (ci := 8) (q0 := 27) S (c_M_thrown l dC dI ad kc nn s2 (P := fun r => (s2 27 0) = r) rfl) (cwV 0 hts (gV mw_844 mw_845 mw_846 mw_10 k_M_thrown) rfl rfl rfl (by decide +kernel) ⟨Nat.le_of_ble_eq_true rfl, Nat.le_of_ble_eq_true rfl⟩) hK hN hW.1 rfl rfl rfl hl.1 rfl (Nat.le_of_ble_eq_true rfl) dW_law_954 ⟨hc1, hs1⟩ (fun r3 hp => ?_)
  subst hp
  refine lv_iload hx hb dW_law_957 (lv_at hl 1 rfl) ?_
  obtain ⟨q1, h⟩ := h
  obtain ⟨q2, h⟩ := h
  obtain ⟨ht, hf⟩ := h
  refine ki_icmp_eq (tgt := 964) hx hb dW_law_959 (by decide) q1 q2 (fun c1 => ?_) (fun c1 => ?_)
  · have h := ht c1
    refine lv_iload hx hb dW_law_964 (lv_at hl 1 rfl) ?_
    obtain ⟨q3, h⟩ := h
    obtain ⟨ht, hf⟩ := h
    refine ki_if_ne (tgt := 981) hx hb dW_law_966 (by decide) q3 (fun c2 => ?_) (fun c2 => ?_)
    · have h := ht c2
      refine lv_goto (tgt := 1251) hx hb dW_law_981 (by decide) ?_
      exact kK s2 _ _ ls h hW (lv_sub hl [2, 3, 4, 5, 6] rfl)
    · have h := hf c2
      refine lv_aload_n hx hb dW_law_969 rfl (lv_at hl 5 rfl) ?_
      refine lv_iconst (v := iI 0) hx hb dW_law_970 rfl ?_
      refine k_lald hx hb hK hW.1 26 18 (s2 26) rfl rfl ⟨by decide, by decide, by decide⟩ dW_law_971 ?_
      refine lv_iload hx hb dW_law_972 (lv_at hl 0 rfl) ?_
      obtain ⟨q4, h⟩ := h
      refine ki_i2l hx hb dW_law_974 q4 ?_
      obtain ⟨q5, h⟩ := h
      refine kl_cmp hx hb q5.1 q5.2 dW_law_975 ?_
      obtain ⟨ht, hf⟩ := h
      refine ki_if_eq (tgt := 981) hx hb dW_law_976 (by decide) (by constructor <;> (repeat' split) <;> decide) (fun c3 => ?_) (fun c3 => ?_)
      · have h := ht c3
        refine lv_goto (tgt := 1251) hx hb dW_law_981 (by decide) ?_
        exact kK s2 _ _ ls h hW (lv_sub hl [2, 3, 4, 5, 6] rfl)
      · have h := hf c3
        refine lv_iconst (v := iI 0) hx hb dW_law_979 rfl ?_
        exact False.elim h
  · have h := hf c1
    refine lv_iconst (v := iI 0) hx hb dW_law_962 rfl ?_
    exact False.elim h
set_option maxHeartbeats 4000000 in
set_option maxRecDepth 100000 in
theorem law_13 {p : Program} {l : Launch} {e : Env} {s : State} {m : MethodId} {below : List Frame} {meth : Method} {c : Code} {b L : Nat} {xs : Nat → Int32} {dC : Nat → ClassId} {dI : Nat → Nat → Nat} {ad : Nat → Nat} {kc : Nat → ClassId} {nn : Nat → Nat} (htr : l.stackTraces = false) (S : CallFix p m c code 7 s #[Value.ref b] (Cond.initialized "PeelRibbons" :: gG) R_W) (hX : va_X b L xs s s.heap) (hbl : b < s.heap.size) (hK : va_K (dC, dI) vwC (tyC kc) s) (hN : kNw nsG s) (hst : ∀ (H : Heap) (locs : List Loc), va_S (fun q : Nat => s.heap.size ≤ q) s.heap H locs → kSt s H) (hL : L ≤ 2562) {i : Int} (hi0 : 0 ≤ i) (hi4 : i + 4 < (L : Int)) {c0 s0 : Nat} (hc1 : c0 + 1 ≤ room_1.cells) (hs1 : s0 + 6 ≤ room_1.slots) {σ : kM} {K : kM → Prop} (h : wl_13 nn xs i σ K) {H : Heap} {locs : List Loc} {ls : Array Slot} (hW : kW (dC, dI) vwC (fun q : Nat => s.heap.size ≤ q) s.heap (wC ad kc nn σ) H locs) (hl : lv_has ls 7 [(0, .ref b), (1, .ref (ad 0)), (2, .ref (ad 27)), (3, .ref (ad 26)), (4, .int (iI i))])
    (kK : ∀ (σ' : kM) (H : Heap) (locs : List Loc) (ls : Array Slot), K σ' → kW (dC, dI) vwC (fun q : Nat => s.heap.size ≤ q) s.heap (wC ad kc nn σ') H locs → lv_has ls 7 [(0, .ref b), (1, .ref (ad 0)), (2, .ref (ad 27)), (3, .ref (ad 26)), (4, .int (iI i))] → W p l e room_1 s m #[Value.ref b] below meth c H locs (c0 + 1) (s0 + 6) (lw_Z below #[Value.ref b] s) (F0 m 1251 ls [])) : W p l e room_1 s m #[Value.ref b] below meth c H locs c0 s0 (lw_Z below #[Value.ref b] s) (F0 m 984 ls []) := by
  obtain ⟨hx, hb, hml, hown, hts⟩ := id S
  have hA : ∀ q : Nat, s.heap.size ≤ q → (fun q : Nat => s.heap.size ≤ q) q := fun _ h => h
  have hbA : ¬ (fun q : Nat => s.heap.size ≤ q) b := Nat.not_le.mpr hbl
  have hca : c0 ≤ room_1.cells := by omega
  have hsa : s0 ≤ room_1.slots := by omega
  unfold wl_13 at h
  refine lv_aload_n hx hb dW_law_984 rfl (lv_at hl 1 rfl) ?_
  refine lv_aload_n hx hb dW_law_985 rfl (lv_at hl 0 rfl) ?_
  refine lv_iload hx hb dW_law_986 (lv_at hl 4 rfl) ?_
  refine lv_iconst (v := iI 1) hx hb dW_law_988 rfl ?_
  refine ki_add hx hb dW_law_989 ?_
  refine k_sld hx hb hX hbl hbA hW.2.2 ⟨by omega, by omega, by omega⟩ dW_law_990 ?_
  refine W.eq (g2 := F0 m 991 ls [.int (iI (xI xs (i + 1))), .ref (ad 0)]) rfl ?_
  refine lv_aload_n hx hb dW_law_991 rfl (lv_at hl 3 rfl) ?_
  obtain ⟨P1, g1, h⟩ := h
  refine kc_sh (n := 3) (As := [.ref (ad 0), .int (iI (xI xs (i + 1))), .ref (ad 26)]) (rest := []) S (c_W_clipped l htr dC dI ad kc nn σ (xI xs (i + 1)) g1) rfl rfl ⟨Nat.le_of_ble_eq_true rfl, Nat.le_of_ble_eq_true rfl⟩ (gG_good k_W_clipped) List.mem_cons_self (hts _ (gG_in mw_683)) (hts _ (gG_in mw_684)) (hts _ (gG_in mw_0)) (by decide +kernel) hK hN (hst H locs hW.2.2) hA hW (fun _ => rfl) rfl hl.1 rfl (Nat.le_of_ble_eq_true rfl) dW_law_992 ⟨hc1, hs1⟩ (fun r1 s1 H locs hp hW => ?_)
  have h := h r1 s1 hp
  refine lv_istore (lv' := [(5, .int (iI r1)), (0, .ref b), (1, .ref (ad 0)), (2, .ref (ad 27)), (3, .ref (ad 26)), (4, .int (iI i))]) hx hb dW_law_995 hl (by decide) rfl (fun ls hl => ?_)
  refine lv_aload_n hx hb dW_law_997 rfl (lv_at hl 3 rfl) ?_
  refine lv_aload_n hx hb dW_law_998 rfl (lv_at hl 1 rfl) ?_
  refine lv_iload hx hb dW_law_999 (lv_at hl 5 rfl) ?_
  refine lv_iconst (v := iI 1) hx hb dW_law_1001 rfl ?_
  refine ki_add hx hb dW_law_1002 ?_
  refine k_sld hx hb hX hbl hbA hW.2.2 ⟨by omega, by omega, by omega⟩ dW_law_1003 ?_
  refine W.eq (g2 := F0 m 1004 ls [.int (iI (xI xs (i + 1))), .ref (ad 27)]) rfl ?_
  obtain ⟨P2, g2, h⟩ := h
  refine kc_vi (As := [.int (iI (xI xs (i + 1)))]) (rest := []) (ci := 8) (q0 := 27) S (c_M_clipped l dC dI ad kc nn s1 (xI xs (i + 1)) g2) (cwV 1 hts (gV mw_939 mw_940 mw_941 mw_10 k_M_clipped) rfl rfl rfl (by decide +kernel) ⟨Nat.le_of_ble_eq_true rfl, Nat.le_of_ble_eq_true rfl⟩) hK hN hA hW (fun _ => rfl) rfl rfl rfl hl.1 rfl (Nat.le_of_ble_eq_true rfl) dW_law_1004 ⟨hc1, hs1⟩ (fun r2 s2 H locs hp hW => ?_)
  have h := h r2 s2 hp
  refine lv_istore (lv' := [(6, .int (iI r2)), (5, .int (iI r1)), (0, .ref b), (1, .ref (ad 0)), (2, .ref (ad 27)), (3, .ref (ad 26)), (4, .int (iI i))]) hx hb dW_law_1007 hl (by decide) rfl (fun ls hl => ?_)
  refine lv_aload_n hx hb dW_law_1009 rfl (lv_at hl 4 rfl) ?_
  refine kc_vp (As := []) (rest := []) (ci := 8) (q0 := 27) S (c_M_thrown l dC dI ad kc nn s2 (P := fun r => (s2 27 0) = r) rfl) (cwV 0 hts (gV mw_844 mw_845 mw_846 mw_10 k_M_thrown) rfl rfl rfl (by decide +kernel) ⟨Nat.le_of_ble_eq_true rfl, Nat.le_of_ble_eq_true rfl⟩) hK hN hW.1 rfl rfl rfl hl.1 rfl (Nat.le_of_ble_eq_true rfl) dW_law_1010 ⟨hc1, hs1⟩ (fun r3 hp => ?_)
  subst hp
  refine lv_iload hx hb dW_law_1013 (lv_at hl 1 rfl) ?_
  obtain ⟨q1, h⟩ := h
  obtain ⟨q2, h⟩ := h
  obtain ⟨ht, hf⟩ := h
  refine ki_icmp_eq (tgt := 1020) hx hb dW_law_1015 (by decide) q1 q2 (fun c1 => ?_) (fun c1 => ?_)
  · have h := ht c1
    refine lv_iload hx hb dW_law_1020 (lv_at hl 1 rfl) ?_
    obtain ⟨q3, h⟩ := h
    obtain ⟨ht, hf⟩ := h
    refine ki_if_ne (tgt := 1037) hx hb dW_law_1022 (by decide) q3 (fun c2 => ?_) (fun c2 => ?_)
    · have h := ht c2
      refine lv_goto (tgt := 1251) hx hb dW_law_1037 (by decide) ?_
      exact kK s2 _ _ ls h hW (lv_sub hl [2, 3, 4, 5, 6] rfl)
    · have h := hf c2
      refine lv_aload_n hx hb dW_law_1025 rfl (lv_at hl 5 rfl) ?_
      refine lv_iconst (v := iI 0) hx hb dW_law_1026 rfl ?_
      refine k_lald hx hb hK hW.1 26 18 (s2 26) rfl rfl ⟨by decide, by decide, by decide⟩ dW_law_1027 ?_
      refine lv_iload hx hb dW_law_1028 (lv_at hl 0 rfl) ?_
      obtain ⟨q4, h⟩ := h
      refine ki_i2l hx hb dW_law_1030 q4 ?_
      obtain ⟨q5, h⟩ := h
      refine kl_cmp hx hb q5.1 q5.2 dW_law_1031 ?_
      obtain ⟨ht, hf⟩ := h
      refine ki_if_eq (tgt := 1037) hx hb dW_law_1032 (by decide) (by constructor <;> (repeat' split) <;> decide) (fun c3 => ?_) (fun c3 => ?_)
      · have h := ht c3
        refine lv_goto (tgt := 1251) hx hb dW_law_1037 (by decide) ?_
        exact kK s2 _ _ ls h hW (lv_sub hl [2, 3, 4, 5, 6] rfl)
      · have h := hf c3
        refine lv_iconst (v := iI 0) hx hb dW_law_1035 rfl ?_
        exact False.elim h
  · have h := hf c1
    refine lv_iconst (v := iI 0) hx hb dW_law_1018 rfl ?_
    exact False.elim h
set_option maxHeartbeats 4000000 in
set_option maxRecDepth 100000 in
theorem law_14 {p : Program} {l : Launch} {e : Env} {s : State} {m : MethodId} {below : List Frame} {meth : Method} {c : Code} {b L : Nat} {xs : Nat → Int32} {dC : Nat → ClassId} {dI : Nat → Nat → Nat} {ad : Nat → Nat} {kc : Nat → ClassId} {nn : Nat → Nat} (htr : l.stackTraces = false) (S : CallFix p m c code 7 s #[Value.ref b] (Cond.initialized "PeelRibbons" :: gG) R_W) (hX : va_X b L xs s s.heap) (hbl : b < s.heap.size) (hK : va_K (dC, dI) vwC (tyC kc) s) (hN : kNw nsG s) (hst : ∀ (H : Heap) (locs : List Loc), va_S (fun q : Nat => s.heap.size ≤ q) s.heap H locs → kSt s H) (hL : L ≤ 2562) {i : Int} (hi0 : 0 ≤ i) (hi4 : i + 4 < (L : Int)) {c0 s0 : Nat} (hc1 : c0 + 1 ≤ room_1.cells) (hs1 : s0 + 6 ≤ room_1.slots) {σ : kM} {K : kM → Prop} (h : wl_14 nn xs i σ K) {H : Heap} {locs : List Loc} {ls : Array Slot} (hW : kW (dC, dI) vwC (fun q : Nat => s.heap.size ≤ q) s.heap (wC ad kc nn σ) H locs) (hl : lv_has ls 7 [(0, .ref b), (1, .ref (ad 0)), (2, .ref (ad 27)), (3, .ref (ad 26)), (4, .int (iI i))])
    (kK : ∀ (σ' : kM) (H : Heap) (locs : List Loc) (ls : Array Slot), K σ' → kW (dC, dI) vwC (fun q : Nat => s.heap.size ≤ q) s.heap (wC ad kc nn σ') H locs → lv_has ls 7 [(0, .ref b), (1, .ref (ad 0)), (2, .ref (ad 27)), (3, .ref (ad 26)), (4, .int (iI i))] → W p l e room_1 s m #[Value.ref b] below meth c H locs (c0 + 1) (s0 + 6) (lw_Z below #[Value.ref b] s) (F0 m 1251 ls [])) : W p l e room_1 s m #[Value.ref b] below meth c H locs c0 s0 (lw_Z below #[Value.ref b] s) (F0 m 1040 ls []) := by
  obtain ⟨hx, hb, hml, hown, hts⟩ := id S
  have hA : ∀ q : Nat, s.heap.size ≤ q → (fun q : Nat => s.heap.size ≤ q) q := fun _ h => h
  have hbA : ¬ (fun q : Nat => s.heap.size ≤ q) b := Nat.not_le.mpr hbl
  have hca : c0 ≤ room_1.cells := by omega
  have hsa : s0 ≤ room_1.slots := by omega
  unfold wl_14 at h
  refine lv_aload_n hx hb dW_law_1040 rfl (lv_at hl 1 rfl) ?_
  refine lv_aload_n hx hb dW_law_1041 rfl (lv_at hl 0 rfl) ?_
  refine lv_iload hx hb dW_law_1042 (lv_at hl 4 rfl) ?_
  refine lv_iconst (v := iI 1) hx hb dW_law_1044 rfl ?_
  refine ki_add hx hb dW_law_1045 ?_
  refine k_sld hx hb hX hbl hbA hW.2.2 ⟨by omega, by omega, by omega⟩ dW_law_1046 ?_
  refine W.eq (g2 := F0 m 1047 ls [.int (iI (xI xs (i + 1))), .ref (ad 0)]) rfl ?_
  refine lv_aload_n hx hb dW_law_1047 rfl (lv_at hl 0 rfl) ?_
  refine lv_iload hx hb dW_law_1048 (lv_at hl 4 rfl) ?_
  refine lv_iconst (v := iI 2) hx hb dW_law_1050 rfl ?_
  refine ki_add hx hb dW_law_1051 ?_
  refine k_sld hx hb hX hbl hbA hW.2.2 ⟨by omega, by omega, by omega⟩ dW_law_1052 ?_
  refine W.eq (g2 := F0 m 1053 ls [.int (iI (xI xs (i + 2))), .int (iI (xI xs (i + 1))), .ref (ad 0)]) rfl ?_
  refine lv_aload_n hx hb dW_law_1053 rfl (lv_at hl 0 rfl) ?_
  refine lv_iload hx hb dW_law_1054 (lv_at hl 4 rfl) ?_
  refine lv_iconst (v := iI 3) hx hb dW_law_1056 rfl ?_
  refine ki_add hx hb dW_law_1057 ?_
  refine k_sld hx hb hX hbl hbA hW.2.2 ⟨by omega, by omega, by omega⟩ dW_law_1058 ?_
  refine W.eq (g2 := F0 m 1059 ls [.int (iI (xI xs (i + 3))), .int (iI (xI xs (i + 2))), .int (iI (xI xs (i + 1))), .ref (ad 0)]) rfl ?_
  refine lv_aload_n hx hb dW_law_1059 rfl (lv_at hl 3 rfl) ?_
  obtain ⟨P1, g1, h⟩ := h
  refine kc_sh (n := 5) (As := [.ref (ad 0), .int (iI (xI xs (i + 1))), .int (iI (xI xs (i + 2))), .int (iI (xI xs (i + 3))), .ref (ad 26)]) (rest := []) S (c_W_shrink l htr dC dI ad kc nn σ (xI xs (i + 1)) (xI xs (i + 2)) (xI xs (i + 3)) g1) rfl rfl ⟨Nat.le_of_ble_eq_true rfl, Nat.le_of_ble_eq_true rfl⟩ (gG_good k_W_shrink) List.mem_cons_self (hts _ (gG_in mw_703)) (hts _ (gG_in mw_704)) (hts _ (gG_in mw_0)) (by decide +kernel) hK hN (hst H locs hW.2.2) hA hW (fun _ => rfl) rfl hl.1 rfl (Nat.le_of_ble_eq_true rfl) dW_law_1060 ⟨hc1, hs1⟩ (fun r1 s1 H locs hp hW => ?_)
  have h := h r1 s1 hp
  refine lv_istore (lv' := [(5, .int (iI r1)), (0, .ref b), (1, .ref (ad 0)), (2, .ref (ad 27)), (3, .ref (ad 26)), (4, .int (iI i))]) hx hb dW_law_1063 hl (by decide) rfl (fun ls hl => ?_)
  refine lv_aload_n hx hb dW_law_1065 rfl (lv_at hl 3 rfl) ?_
  refine lv_aload_n hx hb dW_law_1066 rfl (lv_at hl 1 rfl) ?_
  refine lv_iload hx hb dW_law_1067 (lv_at hl 5 rfl) ?_
  refine lv_iconst (v := iI 1) hx hb dW_law_1069 rfl ?_
  refine ki_add hx hb dW_law_1070 ?_
  refine k_sld hx hb hX hbl hbA hW.2.2 ⟨by omega, by omega, by omega⟩ dW_law_1071 ?_
  refine W.eq (g2 := F0 m 1072 ls [.int (iI (xI xs (i + 1))), .ref (ad 27)]) rfl ?_
  refine lv_aload_n hx hb dW_law_1072 rfl (lv_at hl 1 rfl) ?_
  refine lv_iload hx hb dW_law_1073 (lv_at hl 5 rfl) ?_
  refine lv_iconst (v := iI 2) hx hb dW_law_1075 rfl ?_
  refine ki_add hx hb dW_law_1076 ?_
  refine k_sld hx hb hX hbl hbA hW.2.2 ⟨by omega, by omega, by omega⟩ dW_law_1077 ?_
  refine W.eq (g2 := F0 m 1078 ls [.int (iI (xI xs (i + 2))), .int (iI (xI xs (i + 1))), .ref (ad 27)]) rfl ?_
  refine lv_aload_n hx hb dW_law_1078 rfl (lv_at hl 1 rfl) ?_
  refine lv_iload hx hb dW_law_1079 (lv_at hl 5 rfl) ?_
  refine lv_iconst (v := iI 3) hx hb dW_law_1081 rfl ?_
  refine ki_add hx hb dW_law_1082 ?_
  refine k_sld hx hb hX hbl hbA hW.2.2 ⟨by omega, by omega, by omega⟩ dW_law_1083 ?_
  refine W.eq (g2 := F0 m 1084 ls [.int (iI (xI xs (i + 3))), .int (iI (xI xs (i + 2))), .int (iI (xI xs (i + 1))), .ref (ad 27)]) rfl ?_
  obtain ⟨P2, g2, h⟩ := h
  refine kc_vi (As := [.int (iI (xI xs (i + 1))), .int (iI (xI xs (i + 2))), .int (iI (xI xs (i + 3)))]) (rest := []) (ci := 8) (q0 := 27) S (c_M_shrink l dC dI ad kc nn s1 (xI xs (i + 1)) (xI xs (i + 2)) (xI xs (i + 3)) g2) (cwV 3 hts (gV mw_943 mw_944 mw_945 mw_10 k_M_shrink) rfl rfl rfl (by decide +kernel) ⟨Nat.le_of_ble_eq_true rfl, Nat.le_of_ble_eq_true rfl⟩) hK hN hA hW (fun _ => rfl) rfl rfl rfl hl.1 rfl (Nat.le_of_ble_eq_true rfl) dW_law_1084 ⟨hc1, hs1⟩ (fun r2 s2 H locs hp hW => ?_)
  have h := h r2 s2 hp
  refine lv_istore (lv' := [(6, .int (iI r2)), (5, .int (iI r1)), (0, .ref b), (1, .ref (ad 0)), (2, .ref (ad 27)), (3, .ref (ad 26)), (4, .int (iI i))]) hx hb dW_law_1087 hl (by decide) rfl (fun ls hl => ?_)
  refine lv_aload_n hx hb dW_law_1089 rfl (lv_at hl 4 rfl) ?_
  refine kc_vp (As := []) (rest := []) (ci := 8) (q0 := 27) S (c_M_thrown l dC dI ad kc nn s2 (P := fun r => (s2 27 0) = r) rfl) (cwV 0 hts (gV mw_844 mw_845 mw_846 mw_10 k_M_thrown) rfl rfl rfl (by decide +kernel) ⟨Nat.le_of_ble_eq_true rfl, Nat.le_of_ble_eq_true rfl⟩) hK hN hW.1 rfl rfl rfl hl.1 rfl (Nat.le_of_ble_eq_true rfl) dW_law_1090 ⟨hc1, hs1⟩ (fun r3 hp => ?_)
  subst hp
  refine lv_iload hx hb dW_law_1093 (lv_at hl 1 rfl) ?_
  obtain ⟨q1, h⟩ := h
  obtain ⟨q2, h⟩ := h
  obtain ⟨ht, hf⟩ := h
  refine ki_icmp_eq (tgt := 1100) hx hb dW_law_1095 (by decide) q1 q2 (fun c1 => ?_) (fun c1 => ?_)
  · have h := ht c1
    refine lv_iload hx hb dW_law_1100 (lv_at hl 1 rfl) ?_
    obtain ⟨q3, h⟩ := h
    obtain ⟨ht, hf⟩ := h
    refine ki_if_ne (tgt := 1117) hx hb dW_law_1102 (by decide) q3 (fun c2 => ?_) (fun c2 => ?_)
    · have h := ht c2
      refine lv_goto (tgt := 1251) hx hb dW_law_1117 (by decide) ?_
      exact kK s2 _ _ ls h hW (lv_sub hl [2, 3, 4, 5, 6] rfl)
    · have h := hf c2
      refine lv_aload_n hx hb dW_law_1105 rfl (lv_at hl 5 rfl) ?_
      refine lv_iconst (v := iI 0) hx hb dW_law_1106 rfl ?_
      refine k_lald hx hb hK hW.1 26 18 (s2 26) rfl rfl ⟨by decide, by decide, by decide⟩ dW_law_1107 ?_
      refine lv_iload hx hb dW_law_1108 (lv_at hl 0 rfl) ?_
      obtain ⟨q4, h⟩ := h
      refine ki_i2l hx hb dW_law_1110 q4 ?_
      obtain ⟨q5, h⟩ := h
      refine kl_cmp hx hb q5.1 q5.2 dW_law_1111 ?_
      obtain ⟨ht, hf⟩ := h
      refine ki_if_eq (tgt := 1117) hx hb dW_law_1112 (by decide) (by constructor <;> (repeat' split) <;> decide) (fun c3 => ?_) (fun c3 => ?_)
      · have h := ht c3
        refine lv_goto (tgt := 1251) hx hb dW_law_1117 (by decide) ?_
        exact kK s2 _ _ ls h hW (lv_sub hl [2, 3, 4, 5, 6] rfl)
      · have h := hf c3
        refine lv_iconst (v := iI 0) hx hb dW_law_1115 rfl ?_
        exact False.elim h
  · have h := hf c1
    refine lv_iconst (v := iI 0) hx hb dW_law_1098 rfl ?_
    exact False.elim h
set_option maxHeartbeats 4000000 in
set_option maxRecDepth 100000 in
theorem law_15 {p : Program} {l : Launch} {e : Env} {s : State} {m : MethodId} {below : List Frame} {meth : Method} {c : Code} {b L : Nat} {xs : Nat → Int32} {dC : Nat → ClassId} {dI : Nat → Nat → Nat} {ad : Nat → Nat} {kc : Nat → ClassId} {nn : Nat → Nat} (htr : l.stackTraces = false) (S : CallFix p m c code 7 s #[Value.ref b] (Cond.initialized "PeelRibbons" :: gG) R_W) (hX : va_X b L xs s s.heap) (hbl : b < s.heap.size) (hK : va_K (dC, dI) vwC (tyC kc) s) (hN : kNw nsG s) (hst : ∀ (H : Heap) (locs : List Loc), va_S (fun q : Nat => s.heap.size ≤ q) s.heap H locs → kSt s H) (hL : L ≤ 2562) {i : Int} (hi0 : 0 ≤ i) (hi4 : i + 4 < (L : Int)) {c0 s0 : Nat} (hc1 : c0 + 1 ≤ room_1.cells) (hs1 : s0 + 6 ≤ room_1.slots) {σ : kM} {K : kM → Prop} (h : wl_15 nn xs i σ K) {H : Heap} {locs : List Loc} {ls : Array Slot} (hW : kW (dC, dI) vwC (fun q : Nat => s.heap.size ≤ q) s.heap (wC ad kc nn σ) H locs) (hl : lv_has ls 7 [(0, .ref b), (1, .ref (ad 0)), (2, .ref (ad 27)), (3, .ref (ad 26)), (4, .int (iI i))])
    (kK : ∀ (σ' : kM) (H : Heap) (locs : List Loc) (ls : Array Slot), K σ' → kW (dC, dI) vwC (fun q : Nat => s.heap.size ≤ q) s.heap (wC ad kc nn σ') H locs → lv_has ls 7 [(0, .ref b), (1, .ref (ad 0)), (2, .ref (ad 27)), (3, .ref (ad 26)), (4, .int (iI i))] → W p l e room_1 s m #[Value.ref b] below meth c H locs (c0 + 1) (s0 + 6) (lw_Z below #[Value.ref b] s) (F0 m 1251 ls [])) : W p l e room_1 s m #[Value.ref b] below meth c H locs c0 s0 (lw_Z below #[Value.ref b] s) (F0 m 1120 ls []) := by
  obtain ⟨hx, hb, hml, hown, hts⟩ := id S
  have hA : ∀ q : Nat, s.heap.size ≤ q → (fun q : Nat => s.heap.size ≤ q) q := fun _ h => h
  have hbA : ¬ (fun q : Nat => s.heap.size ≤ q) b := Nat.not_le.mpr hbl
  have hca : c0 ≤ room_1.cells := by omega
  have hsa : s0 ≤ room_1.slots := by omega
  unfold wl_15 at h
  refine lv_aload_n hx hb dW_law_1120 rfl (lv_at hl 1 rfl) ?_
  refine lv_aload_n hx hb dW_law_1121 rfl (lv_at hl 0 rfl) ?_
  refine lv_iload hx hb dW_law_1122 (lv_at hl 4 rfl) ?_
  refine lv_iconst (v := iI 1) hx hb dW_law_1124 rfl ?_
  refine ki_add hx hb dW_law_1125 ?_
  refine k_sld hx hb hX hbl hbA hW.2.2 ⟨by omega, by omega, by omega⟩ dW_law_1126 ?_
  refine W.eq (g2 := F0 m 1127 ls [.int (iI (xI xs (i + 1))), .ref (ad 0)]) rfl ?_
  refine lv_aload_n hx hb dW_law_1127 rfl (lv_at hl 0 rfl) ?_
  refine lv_iload hx hb dW_law_1128 (lv_at hl 4 rfl) ?_
  refine lv_iconst (v := iI 2) hx hb dW_law_1130 rfl ?_
  refine ki_add hx hb dW_law_1131 ?_
  refine k_sld hx hb hX hbl hbA hW.2.2 ⟨by omega, by omega, by omega⟩ dW_law_1132 ?_
  refine W.eq (g2 := F0 m 1133 ls [.int (iI (xI xs (i + 2))), .int (iI (xI xs (i + 1))), .ref (ad 0)]) rfl ?_
  refine lv_aload_n hx hb dW_law_1133 rfl (lv_at hl 3 rfl) ?_
  obtain ⟨P1, g1, h⟩ := h
  refine kc_sh (n := 4) (As := [.ref (ad 0), .int (iI (xI xs (i + 1))), .int (iI (xI xs (i + 2))), .ref (ad 26)]) (rest := []) S (c_W_row l htr dC dI ad kc nn σ (xI xs (i + 1)) (xI xs (i + 2)) g1) rfl rfl ⟨Nat.le_of_ble_eq_true rfl, Nat.le_of_ble_eq_true rfl⟩ (gG_good k_W_row) List.mem_cons_self (hts _ (gG_in mw_713)) (hts _ (gG_in mw_714)) (hts _ (gG_in mw_0)) (by decide +kernel) hK hN (hst H locs hW.2.2) hA hW (fun _ => rfl) rfl hl.1 rfl (Nat.le_of_ble_eq_true rfl) dW_law_1134 ⟨hc1, hs1⟩ (fun r1 s1 H locs hp hW => ?_)
  have h := h r1 s1 hp
  refine lv_istore (lv' := [(5, .int (iI r1)), (0, .ref b), (1, .ref (ad 0)), (2, .ref (ad 27)), (3, .ref (ad 26)), (4, .int (iI i))]) hx hb dW_law_1137 hl (by decide) rfl (fun ls hl => ?_)
  refine lv_aload_n hx hb dW_law_1139 rfl (lv_at hl 3 rfl) ?_
  refine lv_aload_n hx hb dW_law_1140 rfl (lv_at hl 1 rfl) ?_
  refine lv_iload hx hb dW_law_1141 (lv_at hl 5 rfl) ?_
  refine lv_iconst (v := iI 1) hx hb dW_law_1143 rfl ?_
  refine ki_add hx hb dW_law_1144 ?_
  refine k_sld hx hb hX hbl hbA hW.2.2 ⟨by omega, by omega, by omega⟩ dW_law_1145 ?_
  refine W.eq (g2 := F0 m 1146 ls [.int (iI (xI xs (i + 1))), .ref (ad 27)]) rfl ?_
  refine lv_aload_n hx hb dW_law_1146 rfl (lv_at hl 1 rfl) ?_
  refine lv_iload hx hb dW_law_1147 (lv_at hl 5 rfl) ?_
  refine lv_iconst (v := iI 2) hx hb dW_law_1149 rfl ?_
  refine ki_add hx hb dW_law_1150 ?_
  refine k_sld hx hb hX hbl hbA hW.2.2 ⟨by omega, by omega, by omega⟩ dW_law_1151 ?_
  refine W.eq (g2 := F0 m 1152 ls [.int (iI (xI xs (i + 2))), .int (iI (xI xs (i + 1))), .ref (ad 27)]) rfl ?_
  obtain ⟨P2, g2, h⟩ := h
  refine kc_vi (As := [.int (iI (xI xs (i + 1))), .int (iI (xI xs (i + 2)))]) (rest := []) (ci := 8) (q0 := 27) S (c_M_row l dC dI ad kc nn s1 (xI xs (i + 1)) (xI xs (i + 2)) g2) (cwV 2 hts (gV mw_947 mw_948 mw_949 mw_10 k_M_row) rfl rfl rfl (by decide +kernel) ⟨Nat.le_of_ble_eq_true rfl, Nat.le_of_ble_eq_true rfl⟩) hK hN hA hW (fun _ => rfl) rfl rfl rfl hl.1 rfl (Nat.le_of_ble_eq_true rfl) dW_law_1152 ⟨hc1, hs1⟩ (fun r2 s2 H locs hp hW => ?_)
  have h := h r2 s2 hp
  refine lv_istore (lv' := [(6, .int (iI r2)), (5, .int (iI r1)), (0, .ref b), (1, .ref (ad 0)), (2, .ref (ad 27)), (3, .ref (ad 26)), (4, .int (iI i))]) hx hb dW_law_1155 hl (by decide) rfl (fun ls hl => ?_)
  refine lv_aload_n hx hb dW_law_1157 rfl (lv_at hl 4 rfl) ?_
  refine kc_vp (As := []) (rest := []) (ci := 8) (q0 := 27) S (c_M_thrown l dC dI ad kc nn s2 (P := fun r => (s2 27 0) = r) rfl) (cwV 0 hts (gV mw_844 mw_845 mw_846 mw_10 k_M_thrown) rfl rfl rfl (by decide +kernel) ⟨Nat.le_of_ble_eq_true rfl, Nat.le_of_ble_eq_true rfl⟩) hK hN hW.1 rfl rfl rfl hl.1 rfl (Nat.le_of_ble_eq_true rfl) dW_law_1158 ⟨hc1, hs1⟩ (fun r3 hp => ?_)
  subst hp
  refine lv_iload hx hb dW_law_1161 (lv_at hl 1 rfl) ?_
  obtain ⟨q1, h⟩ := h
  obtain ⟨q2, h⟩ := h
  obtain ⟨ht, hf⟩ := h
  refine ki_icmp_eq (tgt := 1168) hx hb dW_law_1163 (by decide) q1 q2 (fun c1 => ?_) (fun c1 => ?_)
  · have h := ht c1
    refine lv_iload hx hb dW_law_1168 (lv_at hl 1 rfl) ?_
    obtain ⟨q3, h⟩ := h
    obtain ⟨ht, hf⟩ := h
    refine ki_if_ne (tgt := 1192) hx hb dW_law_1170 (by decide) q3 (fun c2 => ?_) (fun c2 => ?_)
    · have h := ht c2
      refine lv_goto (tgt := 1251) hx hb dW_law_1192 (by decide) ?_
      exact kK s2 _ _ ls h hW (lv_sub hl [2, 3, 4, 5, 6] rfl)
    · have h := hf c2
      refine lv_aload_n hx hb dW_law_1173 rfl (lv_at hl 5 rfl) ?_
      refine lv_iconst (v := iI 0) hx hb dW_law_1174 rfl ?_
      refine k_lald hx hb hK hW.1 26 18 (s2 26) rfl rfl ⟨by decide, by decide, by decide⟩ dW_law_1175 ?_
      refine lv_iload hx hb dW_law_1176 (lv_at hl 0 rfl) ?_
      obtain ⟨q4, h⟩ := h
      have jW1 : ∀ (v1 : Int) (H : Heap) (locs : List Loc) (ls : Array Slot), kW (dC, dI) vwC (fun q : Nat => s.heap.size ≤ q) s.heap (wC ad kc nn s2) H locs → lv_has ls 7 [(0, .ref b), (1, .ref (ad 0)), (2, .ref (ad 27)), (3, .ref (ad 26)), (4, .int (iI i))] → jn_law15_1186 nn K s2 v1 → W p l e room_1 s m #[Value.ref b] below meth c H locs (c0 + 1) (s0 + 6) (lw_Z below #[Value.ref b] s) (F0 m 1186 ls [.long (lI v1), .long (lI (s2 26 0))]) := by
        intro v1 H locs ls hW hl h
        unfold jn_law15_1186 at h
        obtain ⟨q5, h⟩ := h
        refine kl_cmp hx hb q5.1 q5.2 dW_law_1186 ?_
        obtain ⟨ht, hf⟩ := h
        refine ki_if_eq (tgt := 1192) hx hb dW_law_1187 (by decide) (by constructor <;> (repeat' split) <;> decide) (fun c3 => ?_) (fun c3 => ?_)
        · have h := ht c3
          refine lv_goto (tgt := 1251) hx hb dW_law_1192 (by decide) ?_
          exact kK s2 _ _ ls h hW (lv_sub hl [0, 1, 2, 3, 4] rfl)
        · have h := hf c3
          refine lv_iconst (v := iI 0) hx hb dW_law_1190 rfl ?_
          exact False.elim h
      obtain ⟨ht, hf⟩ := h
      refine ki_if_eq (tgt := 1185) hx hb dW_law_1178 (by decide) q4 (fun c4 => ?_) (fun c4 => ?_)
      · have h := ht c4
        refine lv_lconst (v := lI 0) hx hb dW_law_1185 (by decide) ?_
        exact jW1 0 _ _ ls hW (lv_sub hl [2, 3, 4, 5, 6] rfl) h
      · have h := hf c4
        refine lv_lconst (v := lI 1) hx hb dW_law_1181 (by decide) ?_
        refine lv_goto (tgt := 1186) hx hb dW_law_1182 (by decide) ?_
        exact jW1 1 _ _ ls hW (lv_sub hl [2, 3, 4, 5, 6] rfl) h
  · have h := hf c1
    refine lv_iconst (v := iI 0) hx hb dW_law_1166 rfl ?_
    exact False.elim h
set_option maxHeartbeats 4000000 in
set_option maxRecDepth 100000 in
theorem law_16 {p : Program} {l : Launch} {e : Env} {s : State} {m : MethodId} {below : List Frame} {meth : Method} {c : Code} {b L : Nat} {xs : Nat → Int32} {dC : Nat → ClassId} {dI : Nat → Nat → Nat} {ad : Nat → Nat} {kc : Nat → ClassId} {nn : Nat → Nat} (htr : l.stackTraces = false) (S : CallFix p m c code 7 s #[Value.ref b] (Cond.initialized "PeelRibbons" :: gG) R_W) (hX : va_X b L xs s s.heap) (hbl : b < s.heap.size) (hK : va_K (dC, dI) vwC (tyC kc) s) (hN : kNw nsG s) (hst : ∀ (H : Heap) (locs : List Loc), va_S (fun q : Nat => s.heap.size ≤ q) s.heap H locs → kSt s H) (hL : L ≤ 2562) {i : Int} (hi0 : 0 ≤ i) (hi4 : i + 4 < (L : Int)) {c0 s0 : Nat} (hc1 : c0 + 1 ≤ room_1.cells) (hs1 : s0 + 6 ≤ room_1.slots) {σ : kM} {K : kM → Prop} (h : wl_16 nn xs i σ K) {H : Heap} {locs : List Loc} {ls : Array Slot} (hW : kW (dC, dI) vwC (fun q : Nat => s.heap.size ≤ q) s.heap (wC ad kc nn σ) H locs) (hl : lv_has ls 7 [(0, .ref b), (1, .ref (ad 0)), (2, .ref (ad 27)), (3, .ref (ad 26)), (4, .int (iI i))])
    (kK : ∀ (σ' : kM) (H : Heap) (locs : List Loc) (ls : Array Slot), K σ' → kW (dC, dI) vwC (fun q : Nat => s.heap.size ≤ q) s.heap (wC ad kc nn σ') H locs → lv_has ls 7 [(0, .ref b), (1, .ref (ad 0)), (2, .ref (ad 27)), (3, .ref (ad 26)), (4, .int (iI i))] → W p l e room_1 s m #[Value.ref b] below meth c H locs (c0 + 1) (s0 + 6) (lw_Z below #[Value.ref b] s) (F0 m 1251 ls [])) : W p l e room_1 s m #[Value.ref b] below meth c H locs c0 s0 (lw_Z below #[Value.ref b] s) (F0 m 1195 ls []) := by
  obtain ⟨hx, hb, hml, hown, hts⟩ := id S
  have hA : ∀ q : Nat, s.heap.size ≤ q → (fun q : Nat => s.heap.size ≤ q) q := fun _ h => h
  have hbA : ¬ (fun q : Nat => s.heap.size ≤ q) b := Nat.not_le.mpr hbl
  have hca : c0 ≤ room_1.cells := by omega
  have hsa : s0 ≤ room_1.slots := by omega
  unfold wl_16 at h
  refine lv_aload_n hx hb dW_law_1195 rfl (lv_at hl 1 rfl) ?_
  refine lv_aload_n hx hb dW_law_1196 rfl (lv_at hl 0 rfl) ?_
  refine lv_iload hx hb dW_law_1197 (lv_at hl 4 rfl) ?_
  refine lv_iconst (v := iI 1) hx hb dW_law_1199 rfl ?_
  refine ki_add hx hb dW_law_1200 ?_
  refine k_sld hx hb hX hbl hbA hW.2.2 ⟨by omega, by omega, by omega⟩ dW_law_1201 ?_
  refine W.eq (g2 := F0 m 1202 ls [.int (iI (xI xs (i + 1))), .ref (ad 0)]) rfl ?_
  refine lv_aload_n hx hb dW_law_1202 rfl (lv_at hl 3 rfl) ?_
  obtain ⟨P1, g1, h⟩ := h
  refine kc_sh (n := 3) (As := [.ref (ad 0), .int (iI (xI xs (i + 1))), .ref (ad 26)]) (rest := []) S (c_W_knife l htr dC dI ad kc nn σ (xI xs (i + 1)) g1) rfl rfl ⟨Nat.le_of_ble_eq_true rfl, Nat.le_of_ble_eq_true rfl⟩ (gG_good k_W_knife) List.mem_cons_self (hts _ (gG_in mw_729)) (hts _ (gG_in mw_730)) (hts _ (gG_in mw_0)) (by decide +kernel) hK hN (hst H locs hW.2.2) hA hW (fun _ => rfl) rfl hl.1 rfl (Nat.le_of_ble_eq_true rfl) dW_law_1203 ⟨hc1, hs1⟩ (fun r1 s1 H locs hp hW => ?_)
  have h := h r1 s1 hp
  refine lv_istore (lv' := [(5, .int (iI r1)), (0, .ref b), (1, .ref (ad 0)), (2, .ref (ad 27)), (3, .ref (ad 26)), (4, .int (iI i))]) hx hb dW_law_1206 hl (by decide) rfl (fun ls hl => ?_)
  refine lv_aload_n hx hb dW_law_1208 rfl (lv_at hl 3 rfl) ?_
  refine lv_aload_n hx hb dW_law_1209 rfl (lv_at hl 1 rfl) ?_
  refine lv_iload hx hb dW_law_1210 (lv_at hl 5 rfl) ?_
  refine lv_iconst (v := iI 1) hx hb dW_law_1212 rfl ?_
  refine ki_add hx hb dW_law_1213 ?_
  refine k_sld hx hb hX hbl hbA hW.2.2 ⟨by omega, by omega, by omega⟩ dW_law_1214 ?_
  refine W.eq (g2 := F0 m 1215 ls [.int (iI (xI xs (i + 1))), .ref (ad 27)]) rfl ?_
  obtain ⟨P2, g2, h⟩ := h
  refine kc_vi (As := [.int (iI (xI xs (i + 1)))]) (rest := []) (ci := 8) (q0 := 27) S (c_M_knife l dC dI ad kc nn s1 (xI xs (i + 1)) g2) (cwV 1 hts (gV mw_951 mw_952 mw_953 mw_10 k_M_knife) rfl rfl rfl (by decide +kernel) ⟨Nat.le_of_ble_eq_true rfl, Nat.le_of_ble_eq_true rfl⟩) hK hN hA hW (fun _ => rfl) rfl rfl rfl hl.1 rfl (Nat.le_of_ble_eq_true rfl) dW_law_1215 ⟨hc1, hs1⟩ (fun r2 s2 H locs hp hW => ?_)
  have h := h r2 s2 hp
  refine lv_istore (lv' := [(6, .int (iI r2)), (5, .int (iI r1)), (0, .ref b), (1, .ref (ad 0)), (2, .ref (ad 27)), (3, .ref (ad 26)), (4, .int (iI i))]) hx hb dW_law_1218 hl (by decide) rfl (fun ls hl => ?_)
  refine lv_aload_n hx hb dW_law_1220 rfl (lv_at hl 4 rfl) ?_
  refine kc_vp (As := []) (rest := []) (ci := 8) (q0 := 27) S (c_M_thrown l dC dI ad kc nn s2 (P := fun r => (s2 27 0) = r) rfl) (cwV 0 hts (gV mw_844 mw_845 mw_846 mw_10 k_M_thrown) rfl rfl rfl (by decide +kernel) ⟨Nat.le_of_ble_eq_true rfl, Nat.le_of_ble_eq_true rfl⟩) hK hN hW.1 rfl rfl rfl hl.1 rfl (Nat.le_of_ble_eq_true rfl) dW_law_1221 ⟨hc1, hs1⟩ (fun r3 hp => ?_)
  subst hp
  refine lv_iload hx hb dW_law_1224 (lv_at hl 1 rfl) ?_
  obtain ⟨q1, h⟩ := h
  obtain ⟨q2, h⟩ := h
  obtain ⟨ht, hf⟩ := h
  refine ki_icmp_eq (tgt := 1231) hx hb dW_law_1226 (by decide) q1 q2 (fun c1 => ?_) (fun c1 => ?_)
  · have h := ht c1
    refine lv_iload hx hb dW_law_1231 (lv_at hl 1 rfl) ?_
    obtain ⟨q3, h⟩ := h
    obtain ⟨ht, hf⟩ := h
    refine ki_if_ne (tgt := 1248) hx hb dW_law_1233 (by decide) q3 (fun c2 => ?_) (fun c2 => ?_)
    · have h := ht c2
      refine lv_goto (tgt := 1251) hx hb dW_law_1248 (by decide) ?_
      exact kK s2 _ _ ls h hW (lv_sub hl [2, 3, 4, 5, 6] rfl)
    · have h := hf c2
      refine lv_aload_n hx hb dW_law_1236 rfl (lv_at hl 5 rfl) ?_
      refine lv_iconst (v := iI 0) hx hb dW_law_1237 rfl ?_
      refine k_lald hx hb hK hW.1 26 18 (s2 26) rfl rfl ⟨by decide, by decide, by decide⟩ dW_law_1238 ?_
      refine lv_iload hx hb dW_law_1239 (lv_at hl 0 rfl) ?_
      obtain ⟨q4, h⟩ := h
      refine ki_i2l hx hb dW_law_1241 q4 ?_
      obtain ⟨q5, h⟩ := h
      refine kl_cmp hx hb q5.1 q5.2 dW_law_1242 ?_
      obtain ⟨ht, hf⟩ := h
      refine ki_if_eq (tgt := 1248) hx hb dW_law_1243 (by decide) (by constructor <;> (repeat' split) <;> decide) (fun c3 => ?_) (fun c3 => ?_)
      · have h := ht c3
        refine lv_goto (tgt := 1251) hx hb dW_law_1248 (by decide) ?_
        exact kK s2 _ _ ls h hW (lv_sub hl [2, 3, 4, 5, 6] rfl)
      · have h := hf c3
        refine lv_iconst (v := iI 0) hx hb dW_law_1246 rfl ?_
        exact False.elim h
  · have h := hf c1
    refine lv_iconst (v := iI 0) hx hb dW_law_1229 rfl ?_
    exact False.elim h
