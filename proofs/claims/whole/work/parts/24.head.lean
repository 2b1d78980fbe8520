set_option maxRecDepth 20000 in
theorem mw_17 : Jvm.Cond.classLink "PeelRibbonsLaw" (8 : Nat) "PeelRibbons" ∈ gG := gG_of (List.mem_of_getElem? (i := 41) rfl) rfl
set_option maxRecDepth 20000 in
theorem mw_18 : Jvm.Cond.instantiable "PeelRibbons" (7 : Nat) ∈ gG := gG_of (List.mem_of_getElem? (i := 42) rfl) rfl
set_option maxRecDepth 20000 in
theorem mw_19 : Jvm.Cond.methodLink "PeelRibbonsLaw" (72 : Nat) ({ cls := "PeelRibbons", name := "<init>", desc := "(II)V" } : Jvm.MethodName) ∈ gG := gG_of (List.mem_of_getElem? (i := 43) rfl) rfl
set_option maxRecDepth 20000 in
theorem mw_20 : Jvm.Cond.instanceMethod ({ cls := "PeelRibbons", name := "<init>", desc := "(II)V" } : Jvm.MethodName) ∈ gG := gG_of (List.mem_of_getElem? (i := 44) rfl) rfl
set_option maxRecDepth 20000 in
theorem mw_316 : Jvm.Cond.methodLink "PeelRibbonsLaw" (67 : Nat) ({ cls := "PeelRibbonsLaw", name := "cell", desc := "([II)I" } : Jvm.MethodName) ∈ gG := gG_of (List.mem_of_getElem? (i := 340) rfl) rfl
set_option maxRecDepth 20000 in
theorem mw_317 : Jvm.Cond.static ({ cls := "PeelRibbonsLaw", name := "cell", desc := "([II)I" } : Jvm.MethodName) ∈ gG := gG_of (List.mem_of_getElem? (i := 341) rfl) rfl
set_option maxRecDepth 20000 in
theorem mw_741 : Jvm.Cond.classLink "PeelRibbonsLaw" (75 : Nat) "PeelRibbonsModel" ∈ gG := gG_of (List.mem_of_getElem? (i := 765) rfl) rfl
set_option maxRecDepth 20000 in
theorem mw_742 : Jvm.Cond.instantiable "PeelRibbonsModel" (32 : Nat) ∈ gG := gG_of (List.mem_of_getElem? (i := 766) rfl) rfl
set_option maxRecDepth 20000 in
theorem mw_743 : Jvm.Cond.methodLink "PeelRibbonsLaw" (77 : Nat) ({ cls := "PeelRibbonsModel", name := "<init>", desc := "(II)V" } : Jvm.MethodName) ∈ gG := gG_of (List.mem_of_getElem? (i := 767) rfl) rfl
set_option maxRecDepth 20000 in
theorem mw_744 : Jvm.Cond.instanceMethod ({ cls := "PeelRibbonsModel", name := "<init>", desc := "(II)V" } : Jvm.MethodName) ∈ gG := gG_of (List.mem_of_getElem? (i := 768) rfl) rfl
theorem dW_law_59 : decode code 59 = .ok (.tableswitch 1192 0 16 #[81, 196, 209, 265, 278, 370, 438, 494, 574, 630, 698, 801, 857, 925, 981, 1061, 1136], 81) := by decide +kernel
def xA (L : Nat) (xs : Nat → Int32) (k : Int) : Int := if k < (L : Int) then xI xs k else 0
theorem xA_in (L : Nat) (xs : Nat → Int32) (k : Int) : iR (xA L xs k) := by
  unfold xA xI
  split
  · exact iR_toInt _
  · exact iR_0
theorem iI_ofNat {L : Nat} (h : L ≤ 2562) : Int32.ofNat L = iI (L : Int) := by
  rw [← Int32.toInt_inj, iI_toInt ⟨by omega, by omega⟩, Int32.toInt_ofNat_of_lt (by omega)]
abbrev rm_W_at0 : Room := { frames := 0, cells := 0, slots := 0, locals := 0 }
set_option maxHeartbeats 4000000 in
theorem c_W_at0 (l : Launch) (b L : Nat) (xs : Nat → Int32) (hL : L ≤ 2562) (k : Int) (hk : 0 ≤ k ∧ k < 2147483648) : Met l y_W_at0 ws_W_at0 rm_W_at0 (va_Pc [.ref b, .int (iI k)] (fun U => va_X b L xs U U.heap ∧ b < U.heap.size)) (kQp (fun r => r = xA L xs k)) 0 0 (fun _ => False) := by
  refine Met.ofW (cc := b_W_at0) (maxL := 2) (ret := some .int) (by decide +kernel) rfl ?_
  intro p e s m args below meth c s₁ B hml hv
  obtain ⟨rfl, hX, hbl⟩ := hv
  have hx := B.exec
  have hb := B.bytes
  have hr := B.returns
  have hlocks := B.notSynchronized
  have hl := lv_entry ([.ref b, .int (iI k)]) (n := 2) (Nat.le_of_ble_eq_true rfl)
  rw [lg_entry_eq]
  generalize (lg_sl ([.ref b, .int (iI k)]) ++ List.replicate (2 - (lg_sl ([.ref b, .int (iI k)])).length) Slot.unset).toArray = ls at hl ⊢
  have hl : lv_has ls 2 [(0, .ref b), (1, .int (iI k))] := hl
  have hS : va_S (fun _ => False) s.heap s.heap [] := va_S.rf
  have hbA : ¬ (fun _ : Nat => False) b := fun h => h
  refine lv_iload_n hx hb dW_at0_0 rfl (lv_at hl 1 rfl) ?_
  refine lv_aload_n hx hb dW_at0_1 rfl (lv_at hl 0 rfl) ?_
  refine va_slen (A := fun _ => False) hx hb hX hbl hbA hS dW_at0_2 ?_
  rw [iI_ofNat hL]
  refine ki_icmp_ge (tgt := 12) hx hb dW_at0_3 (by decide) ⟨by omega, by omega⟩ ⟨by omega, by omega⟩ (fun h => ?_) (fun h => ?_)
  · refine lv_iconst (v := iI 0) hx hb dW_at0_12 rfl ?_
    exact k_iretP hx hb hr hlocks dW_at0_13 (by unfold xA; rw [if_neg (by omega)])
  · refine lv_aload_n hx hb dW_at0_6 rfl (lv_at hl 0 rfl) ?_
    refine lv_iload_n hx hb dW_at0_7 rfl (lv_at hl 1 rfl) ?_
    refine k_sld (A := fun _ => False) hx hb hX hbl hbA hS ⟨by omega, by omega, by omega⟩ dW_at0_8 ?_
    refine lv_goto (tgt := 13) hx hb dW_at0_9 (by decide) ?_
    exact k_iretP hx hb hr hlocks dW_at0_13 (by unfold xA xI; rw [if_pos (by omega)])
theorem kc_at0 {p : Program} {l : Launch} {e : Env} {s : State} {m : MethodId} {below : List Frame} {meth : Method} {c : Code} {b L : Nat} {xs : Nat → Int32} {Q : State → Prop} {H : Heap} {locs : List Loc} {cells slots pc : Nat} {ls : Array Slot} {rest : List Value} (S : CallFix p m c code 7 s #[Value.ref b] (Cond.initialized "PeelRibbons" :: gG) R_W) (hX : va_X b L xs s s.heap) (hbl : b < s.heap.size) (hL : L ≤ 2562) (hS : va_S (fun q : Nat => s.heap.size ≤ q) s.heap H locs) (hsz : ls.size = 7) {k : Int} (hk : 0 ≤ k ∧ k < 2147483648) (hcat : (rest.map fun v => v.category).sum ≤ 8) (hdg : decode code pc = .ok (.invokestatic 67, 3)) (hf : cells ≤ room_1.cells ∧ slots ≤ room_1.slots)
    (kk : W p l e room_1 s m #[Value.ref b] below meth c H locs cells slots Q (F0 m (pc + 3) ls (.int (iI (xA L xs k)) :: rest))) : W p l e room_1 s m #[Value.ref b] below meth c H locs cells slots Q (F0 m pc ls (.int (iI k) :: .ref b :: rest)) := by
  obtain ⟨hx, hb, hml, hown, hts⟩ := id S
  have hX1 : va_X b L xs s H := hX.kept (hS.2.1 b hbl (Nat.not_le.mpr hbl))
  have hb1 : b < H.size := Nat.lt_of_lt_of_le hbl hS.1
  refine kc_kp (va_runS (As := [.ref b, .int (iI k)]) (rest := rest) S (c_W_at0 l b L xs hL k hk) (cwS 2 hts (gS mw_316 mw_317 mw_0 k_W_at0) rfl rfl rfl (by decide +kernel) ⟨Nat.le_of_ble_eq_true rfl, Nat.le_of_ble_eq_true rfl⟩) ⟨fun a U g mk q => ?_, fun U hU hWm => ⟨rfl, by rw [hU]; exact hX1.moved hWm.alike, by rw [hU]; exact hb1⟩⟩ rfl rfl hsz rfl (lv_room hcat) hdg hf) (fun r hp => ?_)
  · obtain ⟨q0, q1, q2⟩ := q
    exact ⟨q0, q1.moved (u := U) (U := U.calling g mk a) (Vm.Alike.refl U.vm), q2⟩
  · subst hp
    exact kk
set_option maxHeartbeats 4000000 in
theorem law_head {p : Program} {l : Launch} {e : Env} {s : State} {m : MethodId} {below : List Frame} {meth : Method} {c : Code} {b L : Nat} {xs : Nat → Int32} {Q : State → Prop} {H : Heap} {locs : List Loc} {cells slots : Nat} {ls : Array Slot} (hx : p.tables.exec = Jvm.exec) (hb : c.code = code) (hX : va_X b L xs s s.heap) (hbl : b < s.heap.size) (hL : L ≤ 2562) (hS : va_S (fun q : Nat => s.heap.size ≤ q) s.heap H locs) {i : Int} {a0 a27 a26 : Nat} (hi : 0 ≤ i ∧ i < 5000) (hl : lv_has ls 7 [(0, .ref b), (1, .ref a0), (2, .ref a27), (3, .ref a26), (4, .int (iI i))])
    (ke : (L : Int) - 5 < i → W p l e room_1 s m #[Value.ref b] below meth c H locs cells slots Q (F0 m 1257 ls [])) (kb : i ≤ (L : Int) - 5 → W p l e room_1 s m #[Value.ref b] below meth c H locs cells slots Q (F0 m 59 ls [.int (iI (kAnd (xI xs i) 31))])) : W p l e room_1 s m #[Value.ref b] below meth c H locs cells slots Q (F0 m 43 ls []) := by
  have hbA : ¬ (fun q : Nat => s.heap.size ≤ q) b := Nat.not_le.mpr hbl
  refine lv_iload hx hb dW_law_43 (lv_at hl 4 rfl) ?_
  refine lv_aload_n hx hb dW_law_45 rfl (lv_at hl 0 rfl) ?_
  refine va_slen hx hb hX hbl hbA hS dW_law_46 ?_
  rw [iI_ofNat hL]
  refine lv_iconst (v := iI 5) hx hb dW_law_47 rfl ?_
  refine ki_sub hx hb dW_law_48 ?_
  refine ki_icmp_gt (tgt := 1257) hx hb dW_law_49 (by decide) ⟨by omega, by omega⟩ ⟨by omega, by omega⟩ (fun h => ke (by omega)) (fun h => ?_)
  refine lv_aload_n hx hb dW_law_52 rfl (lv_at hl 0 rfl) ?_
  refine lv_iload hx hb dW_law_53 (lv_at hl 4 rfl) ?_
  refine k_sld hx hb hX hbl hbA hS ⟨by omega, by omega, by omega⟩ dW_law_55 ?_
  refine lv_bipush (v := iI 31) hx hb dW_law_56 (by decide) ?_
  refine ki_and hx hb dW_law_58 ?_
  exact kb (by omega)
set_option maxHeartbeats 4000000 in
theorem law_switch {p : Program} {l : Launch} {e : Env} {s : State} {m : MethodId} {below : List Frame} {meth : Method} {c : Code} {b : Nat} {Q : State → Prop} {H : Heap} {locs : List Loc} {cells slots : Nat} {ls : Array Slot} {rest : List Value} (hx : p.tables.exec = Jvm.exec) (hb : c.code = code) {z : Int} (hz : iR z) (k0 : W p l e room_1 s m #[Value.ref b] below meth c H locs cells slots Q (F0 m 140 ls rest)) (k1 : W p l e room_1 s m #[Value.ref b] below meth c H locs cells slots Q (F0 m 255 ls rest)) (k2 : W p l e room_1 s m #[Value.ref b] below meth c H locs cells slots Q (F0 m 268 ls rest)) (k3 : W p l e room_1 s m #[Value.ref b] below meth c H locs cells slots Q (F0 m 324 ls rest)) (k4 : W p l e room_1 s m #[Value.ref b] below meth c H locs cells slots Q (F0 m 337 ls rest)) (k5 : W p l e room_1 s m #[Value.ref b] below meth c H locs cells slots Q (F0 m 429 ls rest)) (k6 : W p l e room_1 s m #[Value.ref b] below meth c H locs cells slots Q (F0 m 497 ls rest)) (k7 : W p l e room_1 s m #[Value.ref b] below meth c H locs cells slots Q (F0 m 553 ls rest)) (k8 : W p l e room_1 s m #[Value.ref b] below meth c H locs cells slots Q (F0 m 633 ls rest)) (k9 : W p l e room_1 s m #[Value.ref b] below meth c H locs cells slots Q (F0 m 689 ls rest)) (k10 : W p l e room_1 s m #[Value.ref b] below meth c H locs cells slots Q (F0 m 757 ls rest)) (k11 : W p l e room_1 s m #[Value.ref b] below meth c H locs cells slots Q (F0 m 860 ls rest)) (k12 : W p l e room_1 s m #[Value.ref b] below meth c H locs cells slots Q (F0 m 916 ls rest)) (k13 : W p l e room_1 s m #[Value.ref b] below meth c H locs cells slots Q (F0 m 984 ls rest)) (k14 : W p l e room_1 s m #[Value.ref b] below meth c H locs cells slots Q (F0 m 1040 ls rest)) (k15 : W p l e room_1 s m #[Value.ref b] below meth c H locs cells slots Q (F0 m 1120 ls rest)) (k16 : W p l e room_1 s m #[Value.ref b] below meth c H locs cells slots Q (F0 m 1195 ls rest)) (kd : W p l e room_1 s m #[Value.ref b] below meth c H locs cells slots Q (F0 m 1251 ls rest)) : W p l e room_1 s m #[Value.ref b] below meth c H locs cells slots Q (F0 m 59 ls (.int (iI z) :: rest)) := by
  by_cases h : z < 0 ∨ 16 < z
  · exact lv_tableOut (tgt := 1251) hx hb dW_law_59 (by rw [iI_toInt hz]; exact h) (by decide) kd
  · have h2 : z = 0 ∨ z = 1 ∨ z = 2 ∨ z = 3 ∨ z = 4 ∨ z = 5 ∨ z = 6 ∨ z = 7 ∨ z = 8 ∨ z = 9 ∨ z = 10 ∨ z = 11 ∨ z = 12 ∨ z = 13 ∨ z = 14 ∨ z = 15 ∨ z = 16 := by omega
    rcases h2 with rfl | rfl | rfl | rfl | rfl | rfl | rfl | rfl | rfl | rfl | rfl | rfl | rfl | rfl | rfl | rfl | rfl
    · exact lv_tableIn (off := 81) (tgt := 140) hx hb dW_law_59 (by decide) (by decide) (by rfl) (by decide) k0
    · exact lv_tableIn (off := 196) (tgt := 255) hx hb dW_law_59 (by decide) (by decide) (by rfl) (by decide) k1
    · exact lv_tableIn (off := 209) (tgt := 268) hx hb dW_law_59 (by decide) (by decide) (by rfl) (by decide) k2
    · exact lv_tableIn (off := 265) (tgt := 324) hx hb dW_law_59 (by decide) (by decide) (by rfl) (by decide) k3
    · exact lv_tableIn (off := 278) (tgt := 337) hx hb dW_law_59 (by decide) (by decide) (by rfl) (by decide) k4
    · exact lv_tableIn (off := 370) (tgt := 429) hx hb dW_law_59 (by decide) (by decide) (by rfl) (by decide) k5
    · exact lv_tableIn (off := 438) (tgt := 497) hx hb dW_law_59 (by decide) (by decide) (by rfl) (by decide) k6
    · exact lv_tableIn (off := 494) (tgt := 553) hx hb dW_law_59 (by decide) (by decide) (by rfl) (by decide) k7
    · exact lv_tableIn (off := 574) (tgt := 633) hx hb dW_law_59 (by decide) (by decide) (by rfl) (by decide) k8
    · exact lv_tableIn (off := 630) (tgt := 689) hx hb dW_law_59 (by decide) (by decide) (by rfl) (by decide) k9
    · exact lv_tableIn (off := 698) (tgt := 757) hx hb dW_law_59 (by decide) (by decide) (by rfl) (by decide) k10
    · exact lv_tableIn (off := 801) (tgt := 860) hx hb dW_law_59 (by decide) (by decide) (by rfl) (by decide) k11
    · exact lv_tableIn (off := 857) (tgt := 916) hx hb dW_law_59 (by decide) (by decide) (by rfl) (by decide) k12
    · exact lv_tableIn (off := 925) (tgt := 984) hx hb dW_law_59 (by decide) (by decide) (by rfl) (by decide) k13
    · exact lv_tableIn (off := 981) (tgt := 1040) hx hb dW_law_59 (by decide) (by decide) (by rfl) (by decide) k14
    · exact lv_tableIn (off := 1061) (tgt := 1120) hx hb dW_law_59 (by decide) (by decide) (by rfl) (by decide) k15
    · exact lv_tableIn (off := 1136) (tgt := 1195) hx hb dW_law_59 (by decide) (by decide) (by rfl) (by decide) k16
theorem law_tail {p : Program} {l : Launch} {e : Env} {s : State} {m : MethodId} {below : List Frame} {meth : Method} {c : Code} {b : Nat} {Q : State → Prop} {H : Heap} {locs : List Loc} {cells slots : Nat} {ls : Array Slot} (hx : p.tables.exec = Jvm.exec) (hb : c.code = code) {i : Int} {a0 a27 a26 : Nat} (hl : lv_has ls 7 [(0, .ref b), (1, .ref a0), (2, .ref a27), (3, .ref a26), (4, .int (iI i))])
    (kk : ∀ ls : Array Slot, lv_has ls 7 [(0, .ref b), (1, .ref a0), (2, .ref a27), (3, .ref a26), (4, .int (iI (i + 5)))] → W p l e room_1 s m #[Value.ref b] below meth c H locs cells slots Q (F0 m 43 ls [])) : W p l e room_1 s m #[Value.ref b] below meth c H locs cells slots Q (F0 m 1251 ls []) := by
  refine lv_iinc (v := iI (i + 5)) (lv' := [(4, .int (iI (i + 5))), (0, .ref b), (1, .ref a0), (2, .ref a27), (3, .ref a26)]) hx hb dW_law_1251 hl (k := 4) rfl (by rw [← iI_add]; rfl) (by decide) rfl (fun ls hl => ?_)
  refine lv_goto (tgt := 43) hx hb dW_law_1254 (by decide) ?_
  exact kk ls (lv_sub hl [1, 2, 3, 4, 0] rfl)
theorem law_end {p : Program} {l : Launch} {e : Env} {s : State} {m : MethodId} {below : List Frame} {meth : Method} {c : Code} {b : Nat} {H : Heap} {locs : List Loc} {cells slots : Nat} {ls : Array Slot} (hx : p.tables.exec = Jvm.exec) (hb : c.code = code) (hr : meth.sig.returnType = ret) (hlocks : meth.locks = false) (hS : va_S (fun q : Nat => s.heap.size ≤ q) s.heap H locs) (hc : cells ≤ 601024) (hs : slots ≤ 7293000) : W p l e room_1 s m #[Value.ref b] below meth c H locs cells slots (lw_Z below #[Value.ref b] s) (F0 m 1257 ls []) := by
  refine W.widen (k := 601024) (n := 7293000) hc hs ?_
  refine va_forget hS.2.2 ?_
  refine lv_iconst (v := 1) hx hb dW_law_1257 (by decide) ?_
  exact lw_ret hx hb hr hlocks dW_law_1258
set_option maxHeartbeats 4000000 in
theorem law_loop {p : Program} {l : Launch} {e : Env} {s : State} {m : MethodId} {below : List Frame} {meth : Method} {c : Code} {b L : Nat} {xs : Nat → Int32} {dC : Nat → ClassId} {dI : Nat → Nat → Nat} {ad : Nat → Nat} {kc : Nat → ClassId} {nn : Nat → Nat} (htr : l.stackTraces = false) (S : CallFix p m c code 7 s #[Value.ref b] (Cond.initialized "PeelRibbons" :: gG) R_W) (hr : meth.sig.returnType = ret) (hlocks : meth.locks = false) (hX : va_X b L xs s s.heap) (hbl : b < s.heap.size) (hK : va_K (dC, dI) vwC (tyC kc) s) (hN : kNw nsG s) (hst : ∀ (H : Heap) (locs : List Loc), va_S (fun q : Nat => s.heap.size ≤ q) s.heap H locs → kSt s H) (hL : L ≤ 2562) {Inv : kM → Prop} (h0 : ∀ (i : Int) (σ : kM), Inv σ → wl_0 nn xs i σ Inv) (h1 : ∀ (i : Int) (σ : kM), Inv σ → wl_1 nn xs i σ Inv) (h2 : ∀ (i : Int) (σ : kM), Inv σ → wl_2 nn xs i σ Inv) (h3 : ∀ (i : Int) (σ : kM), Inv σ → wl_3 nn xs i σ Inv) (h4 : ∀ (i : Int) (σ : kM), Inv σ → wl_4 nn xs i σ Inv) (h5 : ∀ (i : Int) (σ : kM), Inv σ → wl_5 nn xs i σ Inv) (h6 : ∀ (i : Int) (σ : kM), Inv σ → wl_6 nn xs i σ Inv) (h7 : ∀ (i : Int) (σ : kM), Inv σ → wl_7 nn xs i σ Inv) (h8 : ∀ (i : Int) (σ : kM), Inv σ → wl_8 nn xs i σ Inv) (h9 : ∀ (i : Int) (σ : kM), Inv σ → wl_9 nn xs i σ Inv) (h10 : ∀ (i : Int) (σ : kM), Inv σ → wl_10 nn xs i σ Inv) (h11 : ∀ (i : Int) (σ : kM), Inv σ → wl_11 nn xs i σ Inv) (h12 : ∀ (i : Int) (σ : kM), Inv σ → wl_12 nn xs i σ Inv) (h13 : ∀ (i : Int) (σ : kM), Inv σ → wl_13 nn xs i σ Inv) (h14 : ∀ (i : Int) (σ : kM), Inv σ → wl_14 nn xs i σ Inv) (h15 : ∀ (i : Int) (σ : kM), Inv σ → wl_15 nn xs i σ Inv) (h16 : ∀ (i : Int) (σ : kM), Inv σ → wl_16 nn xs i σ Inv) :
    ∀ (n j : Nat), j ≤ 512 → (L : Int) - (2 + 5 * (j : Int)) ≤ (n : Int) → ∀ (σ : kM) (H : Heap) (locs : List Loc) (ls : Array Slot), Inv σ → kW (dC, dI) vwC (fun q : Nat => s.heap.size ≤ q) s.heap (wC ad kc nn σ) H locs → lv_has ls 7 [(0, .ref b), (1, .ref (ad 0)), (2, .ref (ad 27)), (3, .ref (ad 26)), (4, .int (iI (2 + 5 * (j : Int))))] → W p l e room_1 s m #[Value.ref b] below meth c H locs (44 + j) (26942 + 6 * j) (lw_Z below #[Value.ref b] s) (F0 m 43 ls []) := by
  obtain ⟨hx, hb, hml, hown, hts⟩ := id S
  intro n
  induction n with
  | zero =>
    intro j hj hn σ H locs ls hi hW hl
    exact law_head hx hb hX hbl hL hW.2.2 ⟨by omega, by omega⟩ hl (fun _ => law_end hx hb hr hlocks hW.2.2 (by omega) (by omega)) (fun h => absurd h (by omega))
  | succ n ih =>
    intro j hj hn σ H locs ls hi hW hl
    refine law_head hx hb hX hbl hL hW.2.2 ⟨by omega, by omega⟩ hl (fun _ => law_end hx hb hr hlocks hW.2.2 (by omega) (by omega)) (fun hle => ?_)
    have tl : ∀ (σ' : kM) (H : Heap) (locs : List Loc) (ls : Array Slot), Inv σ' → kW (dC, dI) vwC (fun q : Nat => s.heap.size ≤ q) s.heap (wC ad kc nn σ') H locs → lv_has ls 7 [(0, .ref b), (1, .ref (ad 0)), (2, .ref (ad 27)), (3, .ref (ad 26)), (4, .int (iI (2 + 5 * (j : Int))))] → W p l e room_1 s m #[Value.ref b] below meth c H locs (44 + j + 1) (26942 + 6 * j + 6) (lw_Z below #[Value.ref b] s) (F0 m 1251 ls []) := by
      intro σ' H locs ls hi hW hl
      refine law_tail hx hb hl (fun ls hl => ?_)
      have e : (2 + 5 * (j : Int)) + 5 = 2 + 5 * ((j + 1 : Nat) : Int) := by omega
      rw [e] at hl
      exact ih (j + 1) (by omega) (by omega) σ' H locs ls hi hW hl
    refine law_switch hx hb (iR_toInt _) (law_0 htr S hX hbl hK hN hst hL (i := 2 + 5 * (j : Int)) (by omega) (by omega) (by show _ ≤ 601024; omega) (by show _ ≤ 7293000; omega) (h0 _ σ hi) hW hl tl) (law_1 htr S hX hbl hK hN hst hL (i := 2 + 5 * (j : Int)) (by omega) (by omega) (by show _ ≤ 601024; omega) (by show _ ≤ 7293000; omega) (h1 _ σ hi) hW hl tl) (law_2 htr S hX hbl hK hN hst hL (i := 2 + 5 * (j : Int)) (by omega) (by omega) (by show _ ≤ 601024; omega) (by show _ ≤ 7293000; omega) (h2 _ σ hi) hW hl tl) (law_3 htr S hX hbl hK hN hst hL (i := 2 + 5 * (j : Int)) (by omega) (by omega) (by show _ ≤ 601024; omega) (by show _ ≤ 7293000; omega) (h3 _ σ hi) hW hl tl) (law_4 htr S hX hbl hK hN hst hL (i := 2 + 5 * (j : Int)) (by omega) (by omega) (by show _ ≤ 601024; omega) (by show _ ≤ 7293000; omega) (h4 _ σ hi) hW hl tl) (law_5 htr S hX hbl hK hN hst hL (i := 2 + 5 * (j : Int)) (by omega) (by omega) (by show _ ≤ 601024; omega) (by show _ ≤ 7293000; omega) (h5 _ σ hi) hW hl tl) (law_6 htr S hX hbl hK hN hst hL (i := 2 + 5 * (j : Int)) (by omega) (by omega) (by show _ ≤ 601024; omega) (by show _ ≤ 7293000; omega) (h6 _ σ hi) hW hl tl) (law_7 htr S hX hbl hK hN hst hL (i := 2 + 5 * (j : Int)) (by omega) (by omega) (by show _ ≤ 601024; omega) (by show _ ≤ 7293000; omega) (h7 _ σ hi) hW hl tl) (law_8 htr S hX hbl hK hN hst hL (i := 2 + 5 * (j : Int)) (by omega) (by omega) (by show _ ≤ 601024; omega) (by show _ ≤ 7293000; omega) (h8 _ σ hi) hW hl tl) (law_9 htr S hX hbl hK hN hst hL (i := 2 + 5 * (j : Int)) (by omega) (by omega) (by show _ ≤ 601024; omega) (by show _ ≤ 7293000; omega) (h9 _ σ hi) hW hl tl) (law_10 htr S hX hbl hK hN hst hL (i := 2 + 5 * (j : Int)) (by omega) (by omega) (by show _ ≤ 601024; omega) (by show _ ≤ 7293000; omega) (h10 _ σ hi) hW hl tl) (law_11 htr S hX hbl hK hN hst hL (i := 2 + 5 * (j : Int)) (by omega) (by omega) (by show _ ≤ 601024; omega) (by show _ ≤ 7293000; omega) (h11 _ σ hi) hW hl tl) (law_12 htr S hX hbl hK hN hst hL (i := 2 + 5 * (j : Int)) (by omega) (by omega) (by show _ ≤ 601024; omega) (by show _ ≤ 7293000; omega) (h12 _ σ hi) hW hl tl) (law_13 htr S hX hbl hK hN hst hL (i := 2 + 5 * (j : Int)) (by omega) (by omega) (by show _ ≤ 601024; omega) (by show _ ≤ 7293000; omega) (h13 _ σ hi) hW hl tl) (law_14 htr S hX hbl hK hN hst hL (i := 2 + 5 * (j : Int)) (by omega) (by omega) (by show _ ≤ 601024; omega) (by show _ ≤ 7293000; omega) (h14 _ σ hi) hW hl tl) (law_15 htr S hX hbl hK hN hst hL (i := 2 + 5 * (j : Int)) (by omega) (by omega) (by show _ ≤ 601024; omega) (by show _ ≤ 7293000; omega) (h15 _ σ hi) hW hl tl) (law_16 htr S hX hbl hK hN hst hL (i := 2 + 5 * (j : Int)) (by omega) (by omega) (by show _ ≤ 601024; omega) (by show _ ≤ 7293000; omega) (h16 _ σ hi) hW hl tl) ?_
    exact W.widen (k := 44 + j + 1) (n := 26942 + 6 * j + 6) (by omega) (by omega) (tl σ H locs ls hi hW hl)
def r1_0 (n d : Int) : Nat → Int := fun k => match k with
  | 0 => n
  | 1 => d
  | 2 => sN n
  | 3 => sR n d
  | 4 => d + 2
  | _ => 0
def r2_0 (n d : Int) : Nat → Int := fun k => match k with
  | 1 => d
  | 2 => sN n
  | 5 => 1
  | _ => 0
def r3_0 : Nat → Int := fun k => match k with
  | 2 => 1
  | _ => 0
def r27_0 (n d : Int) : Nat → Int := fun k => match k with
  | 1 => n
  | 2 => d
  | 3 => sN2 n
  | _ => 0
def mem0 (n d : Int) (n2 d2 : Int) : kM := fun c => match c with
  | 1 => r1_0 n d
  | 2 => r2_0 n d
  | 3 => r3_0
  | 10 => fS n
  | 27 => r27_0 n2 d2
  | _ => z0
def nn0 (n d : Int) : Nat → Nat := fun c => match c with
  | 8 => ((n * (d + 2)) * (d + 2)).toNat
  | 9 => ((n * (sR n d)) * (sR n d)).toNat
  | 10 => n.toNat
  | _ => (d + 2).toNat
set_option maxHeartbeats 8000000 in
set_option maxRecDepth 100000 in
theorem law_start {p : Program} {l : Launch} {e : Env} {s : State} {m : MethodId} {below : List Frame} {meth : Method} {c : Code} {b L : Nat} {xs : Nat → Int32} (htr : l.stackTraces = false) (hL : L ≤ 2562) (C0 : lw_At p s m meth c b L xs) {Inv : kM → Prop} (hI : Inv (mem0 (cl1 (xA L xs 0) 4) (cl1 (xA L xs 1) 10) (cl2 (xA L xs 0) 4) (cl2 (xA L xs 1) 10))) (h0 : ∀ (i : Int) (σ : kM), Inv σ → wl_0 (nn0 (cl1 (xA L xs 0) 4) (cl1 (xA L xs 1) 10)) xs i σ Inv) (h1 : ∀ (i : Int) (σ : kM), Inv σ → wl_1 (nn0 (cl1 (xA L xs 0) 4) (cl1 (xA L xs 1) 10)) xs i σ Inv) (h2 : ∀ (i : Int) (σ : kM), Inv σ → wl_2 (nn0 (cl1 (xA L xs 0) 4) (cl1 (xA L xs 1) 10)) xs i σ Inv) (h3 : ∀ (i : Int) (σ : kM), Inv σ → wl_3 (nn0 (cl1 (xA L xs 0) 4) (cl1 (xA L xs 1) 10)) xs i σ Inv) (h4 : ∀ (i : Int) (σ : kM), Inv σ → wl_4 (nn0 (cl1 (xA L xs 0) 4) (cl1 (xA L xs 1) 10)) xs i σ Inv) (h5 : ∀ (i : Int) (σ : kM), Inv σ → wl_5 (nn0 (cl1 (xA L xs 0) 4) (cl1 (xA L xs 1) 10)) xs i σ Inv) (h6 : ∀ (i : Int) (σ : kM), Inv σ → wl_6 (nn0 (cl1 (xA L xs 0) 4) (cl1 (xA L xs 1) 10)) xs i σ Inv) (h7 : ∀ (i : Int) (σ : kM), Inv σ → wl_7 (nn0 (cl1 (xA L xs 0) 4) (cl1 (xA L xs 1) 10)) xs i σ Inv) (h8 : ∀ (i : Int) (σ : kM), Inv σ → wl_8 (nn0 (cl1 (xA L xs 0) 4) (cl1 (xA L xs 1) 10)) xs i σ Inv) (h9 : ∀ (i : Int) (σ : kM), Inv σ → wl_9 (nn0 (cl1 (xA L xs 0) 4) (cl1 (xA L xs 1) 10)) xs i σ Inv) (h10 : ∀ (i : Int) (σ : kM), Inv σ → wl_10 (nn0 (cl1 (xA L xs 0) 4) (cl1 (xA L xs 1) 10)) xs i σ Inv) (h11 : ∀ (i : Int) (σ : kM), Inv σ → wl_11 (nn0 (cl1 (xA L xs 0) 4) (cl1 (xA L xs 1) 10)) xs i σ Inv) (h12 : ∀ (i : Int) (σ : kM), Inv σ → wl_12 (nn0 (cl1 (xA L xs 0) 4) (cl1 (xA L xs 1) 10)) xs i σ Inv) (h13 : ∀ (i : Int) (σ : kM), Inv σ → wl_13 (nn0 (cl1 (xA L xs 0) 4) (cl1 (xA L xs 1) 10)) xs i σ Inv) (h14 : ∀ (i : Int) (σ : kM), Inv σ → wl_14 (nn0 (cl1 (xA L xs 0) 4) (cl1 (xA L xs 1) 10)) xs i σ Inv) (h15 : ∀ (i : Int) (σ : kM), Inv σ → wl_15 (nn0 (cl1 (xA L xs 0) 4) (cl1 (xA L xs 1) 10)) xs i σ Inv) (h16 : ∀ (i : Int) (σ : kM), Inv σ → wl_16 (nn0 (cl1 (xA L xs 0) 4) (cl1 (xA L xs 1) 10)) xs i σ Inv) : W p l e room_1 s m #[Value.ref b] below meth c s.heap [] 0 0 (lw_Z below #[Value.ref b] s) (entryFrame m ([Value.ref b] : List Value).toArray 7) := by
  obtain ⟨hx, hb, hr, hml, hown, hts0, hX, hbl, hlocks, hgv⟩ := id C0
  have hts : ∀ w ∈ Cond.initialized "PeelRibbons" :: gG, w.before #[Value.ref b] s = true := by
    intro w hw
    rcases List.mem_cons.mp hw with rfl | hw
    · exact hts0 _ (List.mem_filter.mp (show Cond.initialized "PeelRibbons" ∈ gG from  mw_1)).1
    · exact hts0 _ (List.mem_filter.mp hw).1
  have S : CallFix p m c code 7 s #[Value.ref b] (Cond.initialized "PeelRibbons" :: gG) R_W := ⟨hx, hb, hml, hown, hts⟩
  have hA : ∀ q : Nat, s.heap.size ≤ q → (fun q : Nat => s.heap.size ≤ q) q := fun _ h => h
  have hNT : ∀ q ∈ nsG, Cond.methodLinkNest q.1 q.2.1 q.2.2.1 q.2.2.2 ∈ lw_tbl := by decide +kernel
  have hN : kNw nsG s := fun q hq => va_Nw.of rfl (hts0 _ (hNT q hq))
  obtain ⟨c0, iS0, hKn0⟩ := u_known (C := R_P) (T := T_P) (N := 7) (n := 7) hts (fun w q => gG_in (inG_P w q)) (hts _ (gG_in (gG_of (by decide +kernel) rfl) : Cond.instantiable R_P 7 ∈ _))
  obtain ⟨c1, iS1, hKn1⟩ := u_known (C := R_S) (T := T_S) (N := 9) (n := 9) hts (fun w q => gG_in (inG_S w q)) (hts _ (gG_in (gG_of (by decide +kernel) rfl) : Cond.instantiable R_S 9 ∈ _))
  obtain ⟨c2, iS2, hKn2⟩ := u_known (C := R_A) (T := T_A) (N := 6) (n := 6) hts (fun w q => gG_in (inG_A w q)) (hts _ (gG_in (gG_of (by decide +kernel) rfl) : Cond.instantiable R_A 6 ∈ _))
  obtain ⟨c3, iS3, hKn3⟩ := u_known (C := R_R) (T := T_R) (N := 4) (n := 4) hts (fun w q => gG_in (inG_R w q)) (hts _ (gG_in (gG_of (by decide +kernel) rfl) : Cond.instantiable R_R 4 ∈ _))
  obtain ⟨c4, iS4, hKn4⟩ := u_known (C := R_F) (T := T_F) (N := 4) (n := 4) hts (fun w q => gG_in (inG_F w q)) (hts _ (gG_in (gG_of (by decide +kernel) rfl) : Cond.instantiable R_F 4 ∈ _))
  obtain ⟨c5, iS5, hKn5⟩ := u_known (C := R_L) (T := T_L) (N := 4) (n := 4) hts (fun w q => gG_in (inG_L w q)) (hts _ (gG_in (gG_of (by decide +kernel) rfl) : Cond.instantiable R_L 4 ∈ _))
  obtain ⟨c6, iS6, hKn6⟩ := u_known (C := R_C) (T := T_C) (N := 10) (n := 10) hts (fun w q => gG_in (inG_C w q)) (hts _ (gG_in (gG_of (by decide +kernel) rfl) : Cond.instantiable R_C 10 ∈ _))
  obtain ⟨c7, iS7, hKn7⟩ := u_known (C := R_K) (T := T_K) (N := 3) (n := 3) hts (fun w q => gG_in (inG_K w q)) (hts _ (gG_in (gG_of (by decide +kernel) rfl) : Cond.instantiable R_K 3 ∈ _))
  obtain ⟨c8, iS8, hKn8⟩ := u_known (C := R_M) (T := T_M) (N := 32) (n := 32) hts (fun w q => gG_in (inG_M w q)) (hts _ (gG_in (gG_of (by decide +kernel) rfl) : Cond.instantiable R_M 32 ∈ _))
  have hfP : s.vm.findClass "PeelRibbons" ≠ none := fun hn => by
    have h2 : s.vm.findClass "PeelRibbons" = some c0 := hKn0.2.1
    rw [hn] at h2
    cases h2
  have hst : ∀ (H : Heap) (locs : List Loc), va_S (fun q : Nat => s.heap.size ≤ q) s.heap H locs → kSt s H := fun H locs hS => kSt.law hts0 hgv hfP hS
  obtain ⟨dC, dI, hKc⟩ : ∃ (dC : Nat → ClassId) (dI : Nat → Nat → Nat), ∀ (k : Nat) (q : vw_C), vwC[k]? = some q → u_Kn s q.1 q.2.1 q.2.2 (dC k) (dI k) := by
    refine ⟨fun k => [c0, c1, c2, c3, c4, c5, c6, c7, c8].getD k c0, fun k => [iS0, iS1, iS2, iS3, iS4, iS5, iS6, iS7, iS8].getD k iS0, ?_⟩
    intro k q hq
    match k, hq with
    | 0, hq => cases hq; exact hKn0
    | 1, hq => cases hq; exact hKn1
    | 2, hq => cases hq; exact hKn2
    | 3, hq => cases hq; exact hKn3
    | 4, hq => cases hq; exact hKn4
    | 5, hq => cases hq; exact hKn5
    | 6, hq => cases hq; exact hKn6
    | 7, hq => cases hq; exact hKn7
    | 8, hq => cases hq; exact hKn8
    | k + 9, hq => simp [vwC] at hq
  have hK : va_K (dC, dI) vwC [] s := ⟨hKc, fun k q h => by simp at h⟩
  have hW : kW (dC, dI) vwC (fun q : Nat => s.heap.size ≤ q) s.heap [] s.heap [] := ⟨fun k q h => by simp at h, ⟨fun i j p q h => by simp at h, fun k q h => by simp at h⟩, va_S.rf⟩
  have hl := lv_entry ([.ref b]) (n := 7) (Nat.le_of_ble_eq_true rfl)
  rw [lg_entry_eq]
  generalize (lg_sl ([.ref b]) ++ List.replicate (7 - (lg_sl ([.ref b])).length) Slot.unset).toArray = ls at hl ⊢
  have hl : lv_has ls 7 [(0, .ref b)] := hl
  refine k_new (ci := 0) (fs := [.null, .null, .null, .null, .null, .null, .null]) (C := R_P) (T := T_P) (N := 7) hx hb hts (fun w q => gG_in (inG_P w q)) ty_P tk_P hown (hts _ (gG_in mw_17)) (hts _ (gG_in mw_18)) (hts _ (gG_in mw_1)) hK hW hA rfl fs_P (Nat.le_of_ble_eq_true rfl) (Nat.le_of_ble_eq_true rfl) dW_law_0 (fun q0 H hW => ?_)
  have hW : kW (dC, dI) vwC (fun q : Nat => s.heap.size ≤ q) s.heap [(q0, .inr (0, [.null, .null, .null, .null, .null, .null, .null]))] H [] := hW
  refine W.widen (k := 1) (n := 7) (Nat.le_of_ble_eq_true rfl) (Nat.le_of_ble_eq_true rfl) ?_
  refine lv_dup hx hb dW_law_3 rfl ?_
  refine lv_aload_n hx hb dW_law_4 rfl (lv_at hl 0 rfl) ?_
  refine lv_iconst (v := iI 0) hx hb dW_law_5 rfl ?_
  refine kc_at0 S hX hbl hL hW.2.2 hl.1 (by decide) (Nat.le_of_ble_eq_true rfl) dW_law_6 ⟨Nat.le_of_ble_eq_true rfl, Nat.le_of_ble_eq_true rfl⟩ ?_
  refine lv_aload_n hx hb dW_law_9 rfl (lv_at hl 0 rfl) ?_
  refine lv_iconst (v := iI 1) hx hb dW_law_10 rfl ?_
  refine kc_at0 S hX hbl hL hW.2.2 hl.1 (by decide) (Nat.le_of_ble_eq_true rfl) dW_law_11 ⟨Nat.le_of_ble_eq_true rfl, Nat.le_of_ble_eq_true rfl⟩ ?_
  refine kc_I (fun hM hp => va_runI (As := [.int (iI (xA L xs 0)), .int (iI (xA L xs 1))]) (rest := [.ref q0]) S (hM H.size) (cwI 2 hts (gG_good k_P_init) rfl rfl rfl (hts _ (gG_in mw_1)) (hts _ (gG_in mw_19)) (hts _ (gG_in mw_20)) rfl (by decide +kernel) ⟨Nat.le_of_ble_eq_true rfl, Nat.le_of_ble_eq_true rfl⟩) hp rfl rfl hl.1 rfl (lv_room (Nat.le_of_ble_eq_true rfl)) dW_law_14 ⟨Nat.le_of_ble_eq_true rfl, Nat.le_of_ble_eq_true rfl⟩) (c_P_init l dC dI q0 (xA L xs 0) (xA L xs 1) (xA_in _ _ _) (xA_in _ _ _)) hK hN hA hW 0 [] (wr := []) rfl rfl (by decide) (by decide) (fun ad1 kc1 H locs hK hW => ?_)
  have hW : kW (dC, dI) vwC (fun q : Nat => s.heap.size ≤ q) s.heap (g_P_init q0 (xA L xs 0) (xA L xs 1) ad1 kc1) H locs := hW
  have hK : va_K (dC, dI) vwC (t_P_init kc1) s := hK
  refine W.widen (k := 26) (n := 12576) (Nat.le_of_ble_eq_true rfl) (Nat.le_of_ble_eq_true rfl) ?_
  refine lv_astore_n (lv' := [(1, .ref q0), (0, .ref b)]) hx hb dW_law_17 rfl hl (by decide) rfl (fun ls hl => ?_)
  refine k_new (ci := 8) (fs := [.int (iI 0), .int (iI 0), .int (iI 0), .int (iI 0), .null, .null, .int (iI 0), .int (iI 0), .null, .int (iI 0), .int (iI 0), .int (iI 0), .int (iI 0), .null, .null, .null, .int (iI 0), .null, .null, .null, .int (iI 0), .int (iI 0), .int (iI 0), .null, .null, .null, .null, .null, .int (iI 0), .null, .null, .int (iI 0)]) (C := R_M) (T := T_M) (N := 32) hx hb hts (fun w q => gG_in (inG_M w q)) ty_M tk_M hown (hts _ (gG_in mw_741)) (hts _ (gG_in mw_742)) (hts _ (gG_in mw_10)) hK hW hA rfl fs_M (Nat.le_of_ble_eq_true rfl) (Nat.le_of_ble_eq_true rfl) dW_law_18 (fun q27 H hW => ?_)
  refine W.widen (k := 27) (n := 12608) (Nat.le_of_ble_eq_true rfl) (Nat.le_of_ble_eq_true rfl) ?_
  refine lv_dup hx hb dW_law_21 rfl ?_
  refine lv_aload_n hx hb dW_law_22 rfl (lv_at hl 1 rfl) ?_
  refine lv_iconst (v := iI 0) hx hb dW_law_23 rfl ?_
  refine kc_at0 S hX hbl hL hW.2.2 hl.1 (by decide) (Nat.le_of_ble_eq_true rfl) dW_law_24 ⟨Nat.le_of_ble_eq_true rfl, Nat.le_of_ble_eq_true rfl⟩ ?_
  refine lv_aload_n hx hb dW_law_27 rfl (lv_at hl 1 rfl) ?_
  refine lv_iconst (v := iI 1) hx hb dW_law_28 rfl ?_
  refine kc_at0 S hX hbl hL hW.2.2 hl.1 (by decide) (Nat.le_of_ble_eq_true rfl) dW_law_29 ⟨Nat.le_of_ble_eq_true rfl, Nat.le_of_ble_eq_true rfl⟩ ?_
  refine kc_I (fun hM hp => va_runI (As := [.int (iI (xA L xs 0)), .int (iI (xA L xs 1))]) (rest := [.ref q27]) S (hM H.size) (cwI 2 hts (gG_good k_M_init) rfl rfl rfl (hts _ (gG_in mw_10)) (hts _ (gG_in mw_743)) (hts _ (gG_in mw_744)) rfl (by decide +kernel) ⟨Nat.le_of_ble_eq_true rfl, Nat.le_of_ble_eq_true rfl⟩) hp rfl rfl hl.1 rfl (lv_room (Nat.le_of_ble_eq_true rfl)) dW_law_32 ⟨Nat.le_of_ble_eq_true rfl, Nat.le_of_ble_eq_true rfl⟩) (c_M_init l dC dI q27 (xA L xs 0) (xA L xs 1) (xA_in _ _ _) (xA_in _ _ _)) hK hN hA hW 26 [0, 1, 2, 3, 4, 5, 6, 7, 8, 9, 10, 11, 12, 13, 14, 15, 16, 17, 18, 19, 20, 21, 22, 23, 24, 25] (wr := (g_P_init q0 (xA L xs 0) (xA L xs 1) ad1 kc1)) rfl rfl (by decide) (by decide) (fun ad2 kc2 H locs hK hW => ?_)
  refine W.widen (k := 43) (n := 26941) (Nat.le_of_ble_eq_true rfl) (Nat.le_of_ble_eq_true rfl) ?_
  refine lv_astore_n (lv' := [(2, .ref q27), (1, .ref q0), (0, .ref b)]) hx hb dW_law_35 rfl hl (by decide) rfl (fun ls hl => ?_)
  refine lv_iconst (v := iI 1) hx hb dW_law_36 rfl ?_
  refine k_newa (atype := .long) (ty := .long) (a0 := (1, .inr (.inl (fun _ => lI 0)))) (N' := 1) hx hb (hts _ (gG_in mw_198)) rfl hK hW hA (fun _ => rfl) ⟨by constructor <;> decide, by decide, rfl⟩ (by decide) (Nat.le_of_ble_eq_true rfl) (Nat.le_of_ble_eq_true rfl) dW_law_37 (fun q26 k26 H hK hW => ?_)
  refine W.widen (k := 44) (n := 26942) (Nat.le_of_ble_eq_true rfl) (Nat.le_of_ble_eq_true rfl) ?_
  refine lv_astore_n (lv' := [(3, .ref q26), (2, .ref q27), (1, .ref q0), (0, .ref b)]) hx hb dW_law_39 rfl hl (by decide) rfl (fun ls hl => ?_)
  refine lv_iconst (v := iI 2) hx hb dW_law_40 rfl ?_
  refine lv_istore (lv' := [(4, .int (iI 2)), (3, .ref q26), (2, .ref q27), (1, .ref q0), (0, .ref b)]) hx hb dW_law_41 hl (by decide) rfl (fun ls hl => ?_)
  exact law_loop (ad := (fun k => [q0, ad1 1, ad1 2, ad1 3, ad1 4, ad1 5, ad1 6, ad1 7, ad1 8, ad1 9, ad1 10, ad1 11, ad1 12, ad1 13, ad1 14, ad1 15, ad1 16, ad1 17, ad1 18, ad1 19, ad1 20, ad1 21, ad1 22, ad1 23, ad1 24, ad1 25, q26, q27, ad2 0, ad2 1, ad2 2, ad2 3, ad2 4, ad2 5, ad2 6, ad2 7, ad2 8, ad2 9, ad2 10, ad2 11, ad2 12, ad2 13, ad2 14, ad2 15].getD k 0)) (kc := (fun k => [0, 0, 0, 0, 0, 0, 0, 0, kc1 8, kc1 9, kc1 10, kc1 11, kc1 12, kc1 13, kc1 14, kc1 15, kc1 16, kc1 17, kc1 18, kc1 19, kc1 20, kc1 21, kc1 22, kc1 23, kc1 24, kc1 25, k26, 0, kc2 0, kc2 1, kc2 2, kc2 3, kc2 4, kc2 5, kc2 6, kc2 7, kc2 8, kc2 9, kc2 10, kc2 11, kc2 12, kc2 13, kc2 14, kc2 15].getD k 0)) htr S hr hlocks hX hbl (hK.sub [0, 1, 2, 3, 4, 5, 6, 7, 8, 9, 10, 11, 12, 13, 14, 15, 16, 17, 34, 18, 19, 20, 21, 22, 23, 24, 25, 26, 27, 28, 29, 30, 31, 32, 33] rfl) hN hst hL h0 h1 h2 h3 h4 h5 h6 h7 h8 h9 h10 h11 h12 h13 h14 h15 h16 L 0 (by omega) (by omega) _ H locs ls hI (hW.perm [0, 1, 2, 3, 4, 5, 6, 7, 8, 9, 10, 11, 12, 13, 14, 15, 16, 17, 18, 19, 20, 21, 22, 23, 24, 25, 43, 26, 27, 28, 29, 30, 31, 32, 33, 34, 35, 36, 37, 38, 39, 40, 41, 42] (by decide) rfl rfl) (lv_sub hl [4, 3, 2, 1, 0] rfl)
