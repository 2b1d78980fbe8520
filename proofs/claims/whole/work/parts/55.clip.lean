/-! clip -/
theorem m_75 {nn : Nat → Nat} {τ : kM} {st T C : Int} {c f Vc : Nat → Int} {Pr : Int → kM → Prop} (hb : Rb (τ 27 12) (τ 27 10) (τ 27 11)) (hc : 0 ≤ τ 27 16 ∧ τ 27 16 ≤ 16) (hF : ∀ j, 0 ≤ τ 31 j ∧ τ 31 j ≤ 359 ∧ 0 ≤ τ 32 j ∧ τ 32 j ≤ 1000) (hL : LW (τ 27 20) (τ 34) (τ 35) (τ 36)) (hst : 1 ≤ st ∧ st ≤ 1000) (hT0 : 0 ≤ T ∧ T ≤ 2000) (hD : DPs T (τ 27 20) (τ 34) (τ 35) (τ 36) (mkA (plF (τ 27 12) (τ 27 10) (τ 27 11) (τ 31) (τ 32)) (τ 33) st (τ 27 16).toNat) Vc 0) (hCh : ∀ x : Int, 0 ≤ x → x < T → ChP T (τ 27 20) (τ 34) (τ 35) (τ 36) (mkA (plF (τ 27 12) (τ 27 10) (τ 27 11) (τ 31) (τ 32)) (τ 33) st (τ 27 16).toNat) Vc x (c x.toNat)) (hR : RecC T (τ 34) c f C) (hC : C ≤ 2000) (kk : ∀ s : kM, (∀ k, k ≠ 27 → k ≠ 37 → k ≠ 38 → k ≠ 39 → k ≠ 40 → k ≠ 41 → s k = τ k) → (∀ j, j ≠ 21 → j ≠ 22 → j ≠ 28 → s 27 j = τ 27 j) → s 27 21 = 1 → s 27 22 = T → s 27 28 = C → (∀ k : Nat, (k : Int) < C → s 41 k = f k ∧ s 40 k = c (f k).toNat) → bw (s 38) (s 39) 0 = Vc 0 → BB T (s 38) (s 39) 0 → Pr C s) : jn_M_clip_75 nn st Pr τ T := by
  have hw0 : ∀ j, 0 ≤ τ 34 j := fun j => (hL.2.2.1 j).1
  rintro s3 rfl
  refine m_marks (σ := va_up τ 27 (va_up (τ 27) 22 T)) hb hc hF hst (fun s7 f7 m7 => ?_)
  have e27 : s7 27 = va_up (τ 27) 22 T := f7 27 (by decide)
  have e22 : s7 27 22 = T := by rw [e27, up_same]
  have hi : 0 ≤ T ∧ T < 2001 ∧ T < 2147483648 := by omega
  rw [e22]
  refine ⟨hi, ?_⟩
  rintro s8 rfl
  have e22' : (va_up s7 38 (va_up (s7 38) T.toNat 0)) 27 22 = T := e22
  rw [e22']
  refine ⟨hi, ?_⟩
  rintro s9 rfl v7 hv7
  have e22'' : (va_up (va_up s7 38 (va_up (s7 38) T.toNat 0)) 39 (va_up (s7 39) T.toNat 0)) 27 22 = T := e22
  have hv7' : v7 = T - 1 := by rw [hv7]; show s7 27 22 - 1 = T - 1; rw [e22]
  have m34 : s7 34 = τ 34 := f7 34 (by decide)
  have m35 : s7 35 = τ 35 := f7 35 (by decide)
  have m36 : s7 36 = τ 36 := f7 36 (by decide)
  have m20 : s7 27 20 = τ 27 20 := by rw [e27]; rfl
  refine m_dp (σ := va_up (va_up s7 38 (va_up (s7 38) T.toNat 0)) 39 (va_up (s7 39) T.toNat 0)) (T := T) (mk := mkA (plF (τ 27 12) (τ 27 10) (τ 27 11) (τ 31) (τ 32)) (τ 33) st (τ 27 16).toNat) (by show LW (s7 27 20) (s7 34) (s7 35) (s7 36); rw [m20, m34, m35, m36]; exact hL) e22'' hT0 m7 (by show va_up (s7 38) T.toNat 0 T.toNat = 0; rw [up_same]) (by show va_up (s7 39) T.toNat 0 T.toNat = 0; rw [up_same]) (fun s11 f11 d11 b11 => ?_) v7 hv7'
  have d11 : DPs T (s7 27 20) (s7 34) (s7 35) (s7 36) (mkA (plF (τ 27 12) (τ 27 10) (τ 27 11) (τ 31) (τ 32)) (τ 33) st (τ 27 16).toNat) (bw (s11 38) (s11 39)) 0 := d11
  rw [m20, m34, m35, m36] at d11
  have hag : ∀ j : Int, 0 ≤ j → j ≤ T → Vc j.toNat = bw (s11 38) (s11 39) j.toNat := fun j a b => DPs.one hw0 hL.2.2.2 hD d11 (T - j).toNat j (by omega) a b
  have n27 : s11 27 = s7 27 := f11 27 (by decide) (by decide)
  have n34 : s11 34 = τ 34 := (f11 34 (by decide) (by decide)).trans m34
  have n35 : s11 35 = τ 35 := (f11 35 (by decide) (by decide)).trans m35
  have n36 : s11 36 = τ 36 := (f11 36 (by decide) (by decide)).trans m36
  have n37 : s11 37 = s7 37 := f11 37 (by decide) (by decide)
  have n20 : s11 27 20 = τ 27 20 := by rw [n27]; exact m20
  rintro s12 rfl
  refine m_greedy (σ := va_up s11 27 (va_up (s11 27) 28 0)) (T := T) (C := C) (c := c) (f := f) (mk := mkA (plF (τ 27 12) (τ 27 10) (τ 27 11) (τ 31) (τ 32)) (τ 33) st (τ 27 16).toNat) (by show LW (s11 27 20) (s11 34) (s11 35) (s11 36); rw [n20, n34, n35, n36]; exact hL) (by show s11 27 22 = T; rw [n27]; exact e22) hT0 (by show ∀ j : Nat, (j : Int) ≤ 2000 → s11 37 j = _; rw [n37]; exact m7) b11 (fun x a b => ?_) (by show RecC T (s11 34) c f C; rw [n34]; exact hR) hC rfl (fun s14 f14 e28 hk => ?_)
  · show ChP T (s11 27 20) (s11 34) (s11 35) (s11 36) _ (bw (s11 38) (s11 39)) x (c x.toNat)
    rw [n20, n34, n35, n36]
    exact (hCh x a b).cg hw0 (fun j a1 a2 => hag j (by omega) a2) b
  · rintro s15 rfl
    have hfin := kk (va_up s14 27 (va_up (s14 27) 21 1)) (fun k k1 k2 k3 k4 k5 k6 => ?_) (fun j j1 j2 j3 => ?_) rfl ?_ ?_ hk ?_ ?_
    · have e : (va_up s14 27 (va_up (s14 27) 21 1)) 27 28 = C := e28
      rw [e]
      exact hfin
    · rw [up_ne _ _ k1, f14.1 k k1 k5 k6, up_ne _ _ k1, f11 k k3 k4, up_ne _ _ k4, up_ne _ _ k3, f7 k k2, up_ne _ _ k1]
    · rw [up_same, up_ne _ _ j1, f14.2 j j3, up_same, up_ne _ _ j3, n27, e27, up_ne _ _ j2]
    · show s14 27 22 = T
      rw [f14.2 22 (by decide)]
      show s11 27 22 = T
      rw [n27]; exact e22
    · exact e28
    · show bw (s14 38) (s14 39) 0 = Vc 0
      rw [f14.1 38 (by decide) (by decide) (by decide), f14.1 39 (by decide) (by decide) (by decide)]
      exact (hag 0 (by omega) hT0.1).symm
    · show BB T (s14 38) (s14 39) 0
      rw [f14.1 38 (by decide) (by decide) (by decide), f14.1 39 (by decide) (by decide) (by decide)]
      exact b11
theorem m_clip {nn : Nat → Nat} {σ : kM} {st T C : Int} {c f Vc : Nat → Int} {Pr : Int → kM → Prop} (h9 : σ 27 9 = 1) (hb : Rb (σ 27 12) (σ 27 10) (σ 27 11)) (hc : 0 ≤ σ 27 16 ∧ σ 27 16 ≤ 16) (hF : ∀ j, 0 ≤ σ 31 j ∧ σ 31 j ≤ 359 ∧ 0 ≤ σ 32 j ∧ σ 32 j ≤ 1000) (hL : LW (σ 27 20) (σ 34) (σ 35) (σ 36)) (hp : iR st) (hst : 1 ≤ st ∧ st ≤ 1000) (hT : stp (lenB (σ 27 12) (σ 27 10) (σ 27 11)) st = T) (hD : DPs T (σ 27 20) (σ 34) (σ 35) (σ 36) (mkA (plF (σ 27 12) (σ 27 10) (σ 27 11) (σ 31) (σ 32)) (σ 33) st (σ 27 16).toNat) Vc 0) (hCh : ∀ x : Int, 0 ≤ x → x < T → ChP T (σ 27 20) (σ 34) (σ 35) (σ 36) (mkA (plF (σ 27 12) (σ 27 10) (σ 27 11) (σ 31) (σ 32)) (σ 33) st (σ 27 16).toNat) Vc x (c x.toNat)) (hR : RecC T (σ 34) c f C) (hC : C ≤ 2000) (kk : ∀ s : kM, (∀ k, k ≠ 27 → k ≠ 37 → k ≠ 38 → k ≠ 39 → k ≠ 40 → k ≠ 41 → s k = σ k) → (∀ j, j ≠ 0 → j ≠ 21 → j ≠ 22 → j ≠ 28 → s 27 j = σ 27 j) → s 27 0 = 0 → s 27 21 = 1 → s 27 22 = T → s 27 28 = C → (∀ k : Nat, (k : Int) < C → s 41 k = f k ∧ s 40 k = c (f k).toNat) → bw (s 38) (s 39) 0 = Vc 0 → BB T (s 38) (s 39) 0 → Pr C s) : wp_M_clip nn σ st Pr := by
  obtain ⟨-, -, n1, n2, -⟩ := len_in hb hb.2.2.2.2.1 (Int.le_refl _)
  obtain ⟨t1, t2⟩ := stp_in ⟨n1, n2⟩ hst.1
  rw [hT] at t1
  refine ex_mB hp ⟨by decide, by decide⟩ ⟨by decide, by decide⟩ (fun _ _ => ⟨⟨by omega, by omega⟩, fun z => by omega, fun _ => ?_⟩) (fun z => absurd hst z)
  rintro s1 rfl
  refine ⟨iR_0, fun _ => ?_, fun z => absurd (Int.le_refl 0) z⟩
  refine ⟨fun r => r = lenB (σ 27 12) (σ 27 10) (σ 27 11), m_len (σ := va_up σ 27 (va_up (σ 27) 0 0)) hb hb.2.2.2.2.1 (Int.le_refl _) rfl, ?_⟩
  rintro r2 rfl
  refine ⟨⟨⟨by omega, by omega⟩, ⟨by omega, by omega⟩, n1, by omega⟩, ?_⟩
  rintro s2 rfl
  have fin : ∀ v : Int, v = T → jn_M_clip_75 nn st Pr (va_up (va_up σ 27 (va_up (σ 27) 0 0)) 27 (va_up (va_up (σ 27) 0 0) 22 (lenB (σ 27 12) (σ 27 10) (σ 27 11) / st))) v := by
    rintro v rfl
    refine m_75 (τ := va_up (va_up σ 27 (va_up (σ 27) 0 0)) 27 (va_up (va_up (σ 27) 0 0) 22 (lenB (σ 27 12) (σ 27 10) (σ 27 11) / st))) (c := c) (f := f) (Vc := Vc) hb hc hF hL hst t1 hD hCh hR hC (fun s q1 q2 q3 q4 q5 q6 q7 q8 => kk s (fun k k1 k2 k3 k4 k5 k6 => ?_) (fun j j0 j1 j2 j3 => ?_) ?_ q3 q4 q5 q6 q7 q8)
    · rw [q1 k k1 k2 k3 k4 k5 k6, up_ne _ _ k1, up_ne _ _ k1]
    · rw [q2 j j1 j2 j3, up_same, up_ne _ _ j2, up_ne _ _ j0]
    · rw [q2 0 (by decide) (by decide) (by decide)]; rfl
  refine ⟨t2, fun z => fin _ ?_, fun z => fin _ ?_⟩
  · have z : lenB (σ 27 12) (σ 27 10) (σ 27 11) / st ≤ 2000 := z
    show lenB (σ 27 12) (σ 27 10) (σ 27 11) / st = T
    rw [← hT]
    unfold stp
    split <;> omega
  · have z : ¬ lenB (σ 27 12) (σ 27 10) (σ 27 11) / st ≤ 2000 := z
    rw [← hT]
    unfold stp
    split <;> omega
theorem r_clip {n d N : Int} {nn : Nat → Nat} {xs : Nat → Int32} (i : Int) (σ : kM) (h : Rel n d N σ) : wl_11 nn xs i σ (Rel n d N) := by
  have hR := h
  obtain ⟨hG, hCe, hQ, hA, hM, ⟨hB1, hB2, hB3⟩, ⟨hc, h0, h8, hw1, hw2, hw3, hj⟩, ⟨lc, lc0, lc6, lw1, lw2, lw3, lj, lj1⟩, hP, hK⟩ := h
  have hp0 := xI_in xs (i + 1)
  unfold wl_11
  generalize xI xs (i + 1) = p0 at hp0 ⊢
  have hFc : ∀ j, 0 ≤ σ 13 j ∧ σ 13 j ≤ 359 ∧ 0 ≤ σ 14 j ∧ σ 14 j ≤ 1000 := fun j => ⟨(hj j).1, (hj j).2.1, (hj j).2.2.1, (hj j).2.2.2.1⟩
  have hLc : LW (σ 5 3) (σ 16) (σ 17) (σ 18) := ⟨lc0, lc6, lj, lj1⟩
  by_cases hw : 1 ≤ p0 ∧ p0 ≤ 1000
  · by_cases hd : σ 3 0 = 1
    · obtain ⟨g1, g2, g3, g4⟩ := hB3 hd
      have hb : Rb (σ 3 1) (σ 3 2) (σ 3 3) := g4
      refine ⟨fun r s => r = 0 ∧ ∃ t, ClC σ t p0 ∧ s = va_up t 26 (va_up (t 26) 0 (t 6 7)), Or.inl ⟨fun r s => r = s 6 7 ∧ ClC σ s p0, ex_wB hp0 ⟨by decide, by decide⟩ ⟨by decide, by decide⟩ (fun _ _ => ex_pl hB2 (fun _ => ⟨fun s => ClC σ s p0, c_cut hb ⟨h0, h8⟩ hFc hLc hw (fun s q => q), fun s q => ⟨rfl, q⟩⟩) (fun z => by omega)) (fun z => absurd hw z), ?_⟩, ?_⟩
      · rintro r s ⟨rfl, q⟩
        have hC7 := q.2.2.2.2.2.1.1
        have hC8 := q.2.2.2.2.2.2.1
        exact ⟨⟨by omega, by omega⟩, fun s2 e => ⟨rfl, s, q, e⟩⟩
      · rintro r1 s1 ⟨rfl, t, ⟨f0, f5, f6, fD, fCh, fR, fC, f9, f8', fV⟩, rfl⟩
        have ek : ∀ k, k ≠ 6 → k ≠ 19 → k ≠ 20 → k ≠ 21 → k ≠ 22 → k ≠ 23 → t k = σ k := f0
        have t27 : t 27 = σ 27 := ek 27 (by decide) (by decide) (by decide) (by decide) (by decide) (by decide)
        have t31 : t 31 = σ 13 := (ek 31 (by decide) (by decide) (by decide) (by decide) (by decide) (by decide)).trans hw1
        have t32 : t 32 = σ 14 := (ek 32 (by decide) (by decide) (by decide) (by decide) (by decide) (by decide)).trans hw2
        have t33 : t 33 = σ 15 := (ek 33 (by decide) (by decide) (by decide) (by decide) (by decide) (by decide)).trans hw3
        have t34 : t 34 = σ 16 := (ek 34 (by decide) (by decide) (by decide) (by decide) (by decide) (by decide)).trans lw1
        have t35 : t 35 = σ 17 := (ek 35 (by decide) (by decide) (by decide) (by decide) (by decide) (by decide)).trans lw2
        have t36 : t 36 = σ 18 := (ek 36 (by decide) (by decide) (by decide) (by decide) (by decide) (by decide)).trans lw3
        have x12 : t 27 12 = σ 3 1 := by rw [t27]; exact g1
        have x10 : t 27 10 = σ 3 2 := by rw [t27]; exact g2
        have x11 : t 27 11 = σ 3 3 := by rw [t27]; exact g3
        have x16 : t 27 16 = σ 4 3 := by rw [t27]; exact hc
        have x20 : t 27 20 = σ 5 3 := by rw [t27]; exact lc
        have x9 : t 27 9 = 1 := by rw [t27, hB1]; exact hd
        obtain ⟨-, -, n1, n2, -⟩ := len_in hb hb.2.2.2.2.1 (Int.le_refl _)
        obtain ⟨tT, -⟩ := stp_in ⟨n1, n2⟩ hw.1
        rw [← f6] at tT
        have hC0 := fR.1
        refine ⟨fun r s => Rel n d N s ∧ s 27 0 = 0 ∧ s 26 0 = r ∧ iR r, m_clip (σ := va_up t 26 (va_up (t 26) 0 (t 6 7))) (T := t 6 6) (C := t 6 7) (c := t 21) (f := t 22) (Vc := t 20) x9 (by show Rb (t 27 12) (t 27 10) (t 27 11); rw [x12, x10, x11]; exact hb) (by show 0 ≤ t 27 16 ∧ t 27 16 ≤ 16; rw [x16]; exact ⟨h0, h8⟩) (by show ∀ j, 0 ≤ t 31 j ∧ t 31 j ≤ 359 ∧ 0 ≤ t 32 j ∧ t 32 j ≤ 1000; rw [t31, t32]; exact hFc) (by show LW (t 27 20) (t 34) (t 35) (t 36); rw [x20, t34, t35, t36]; exact hLc) hp0 hw (by show stp (lenB (t 27 12) (t 27 10) (t 27 11)) p0 = t 6 6; rw [x12, x10, x11]; exact f6.symm) ?_ ?_ (by show RecC (t 6 6) (t 34) (t 21) (t 22) (t 6 7); rw [t34]; exact fR) fC (fun s q1 q2 q3 q4 q5 q6 q7 q8 q9 => ?_), ?_⟩
        · show DPs (t 6 6) (t 27 20) (t 34) (t 35) (t 36) (mkA (plF (t 27 12) (t 27 10) (t 27 11) (t 31) (t 32)) (t 33) p0 (t 27 16).toNat) (t 20) 0
          rw [x20, t34, t35, t36, x12, x10, x11, t31, t32, t33, x16]
          exact fD
        · show ∀ x : Int, 0 ≤ x → x < t 6 6 → ChP (t 6 6) (t 27 20) (t 34) (t 35) (t 36) (mkA (plF (t 27 12) (t 27 10) (t 27 11) (t 31) (t 32)) (t 33) p0 (t 27 16).toNat) (t 20) x (t 21 x.toNat)
          rw [x20, t34, t35, t36, x12, x10, x11, t31, t32, t33, x16]
          exact fCh
        · have y : ∀ k, k ≠ 6 → k ≠ 19 → k ≠ 20 → k ≠ 21 → k ≠ 22 → k ≠ 23 → k ≠ 26 → k ≠ 27 → k ≠ 37 → k ≠ 38 → k ≠ 39 → k ≠ 40 → k ≠ 41 → s k = σ k := fun k a1 a2 a3 a4 a5 a6 a7 a8 a9 a10 a11 a12 a13 => by
            rw [q1 k a8 a9 a10 a11 a12 a13, up_ne _ _ a7, ek k a1 a2 a3 a4 a5 a6]
          have z : ∀ j, j ≠ 0 → j ≠ 21 → j ≠ 22 → j ≠ 28 → s 27 j = σ 27 j := fun j a1 a2 a3 a4 => by
            rw [q2 j a1 a2 a3 a4]
            show t 27 j = σ 27 j
            rw [t27]
          have s6 : s 6 = t 6 := q1 6 (by decide) (by decide) (by decide) (by decide) (by decide) (by decide)
          have s21 : s 21 = t 21 := q1 21 (by decide) (by decide) (by decide) (by decide) (by decide) (by decide)
          have s22 : s 22 = t 22 := q1 22 (by decide) (by decide) (by decide) (by decide) (by decide) (by decide)
          have s26 : s 26 = va_up (t 26) 0 (t 6 7) := q1 26 (by decide) (by decide) (by decide) (by decide) (by decide) (by decide)
          refine ⟨?_, q3, by rw [s26, up_same], ⟨by omega, by omega⟩⟩
          have hb0 := q9 0 (by omega) tT.1
          have hb0 : (0 ≤ s 38 0 ∧ s 38 0 ≤ 1000000 * (t 6 6 - 0)) ∧ (0 ≤ s 39 0 ∧ s 39 0 ≤ t 6 6 - 0) := hb0
          have hbw : s 38 0 * 2001 - s 39 0 = t 20 0 := q8
          have hCli : CliG (t 6 5) (t 6 6) (t 6 7) (t 6 8) (t 6 9) (t 21) (t 22) (s 27 21) (s 27 22) (s 27 28) (s 38 0) (s 39 0) (s 40) (s 41) := by
            refine ⟨by rw [q4, f5], Or.inr f5, fun _ => ⟨q5, q6, by omega, by omega, ⟨by omega, by omega⟩, hC0, fC, ⟨by omega, by omega⟩, ⟨by omega, by omega⟩, fun k hk => ?_⟩⟩
            obtain ⟨u1, u2, u3, u4, u5⟩ := fR.2.1 k hk
            obtain ⟨w1, w2⟩ := q7 k hk
            refine ⟨u2, by omega, w1, w2, ?_⟩
            rw [w2]
            have hch := fCh (t 22 k) u2 u3
            rcases hch with ⟨v1, -⟩ | ⟨v1, v2, -⟩
            · rw [v1]; exact ⟨by decide, by decide⟩
            · exact ⟨by omega, by omega⟩
          obtain ⟨o1, o2, o3, o4, o5, o6, o7, o8, o9, o10⟩ := hR
          unfold Rel
          simp only [y 1 (by decide) (by decide) (by decide) (by decide) (by decide) (by decide) (by decide) (by decide) (by decide) (by decide) (by decide) (by decide) (by decide), y 2 (by decide) (by decide) (by decide) (by decide) (by decide) (by decide) (by decide) (by decide) (by decide) (by decide) (by decide) (by decide) (by decide), y 3 (by decide) (by decide) (by decide) (by decide) (by decide) (by decide) (by decide) (by decide) (by decide) (by decide) (by decide) (by decide) (by decide), y 4 (by decide) (by decide) (by decide) (by decide) (by decide) (by decide) (by decide) (by decide) (by decide) (by decide) (by decide) (by decide) (by decide), y 5 (by decide) (by decide) (by decide) (by decide) (by decide) (by decide) (by decide) (by decide) (by decide) (by decide) (by decide) (by decide) (by decide), y 7 (by decide) (by decide) (by decide) (by decide) (by decide) (by decide) (by decide) (by decide) (by decide) (by decide) (by decide) (by decide) (by decide), y 8 (by decide) (by decide) (by decide) (by decide) (by decide) (by decide) (by decide) (by decide) (by decide) (by decide) (by decide) (by decide) (by decide), y 9 (by decide) (by decide) (by decide) (by decide) (by decide) (by decide) (by decide) (by decide) (by decide) (by decide) (by decide) (by decide) (by decide), y 10 (by decide) (by decide) (by decide) (by decide) (by decide) (by decide) (by decide) (by decide) (by decide) (by decide) (by decide) (by decide) (by decide), y 12 (by decide) (by decide) (by decide) (by decide) (by decide) (by decide) (by decide) (by decide) (by decide) (by decide) (by decide) (by decide) (by decide), y 13 (by decide) (by decide) (by decide) (by decide) (by decide) (by decide) (by decide) (by decide) (by decide) (by decide) (by decide) (by decide) (by decide), y 14 (by decide) (by decide) (by decide) (by decide) (by decide) (by decide) (by decide) (by decide) (by decide) (by decide) (by decide) (by decide) (by decide), y 15 (by decide) (by decide) (by decide) (by decide) (by decide) (by decide) (by decide) (by decide) (by decide) (by decide) (by decide) (by decide) (by decide), y 16 (by decide) (by decide) (by decide) (by decide) (by decide) (by decide) (by decide) (by decide) (by decide) (by decide) (by decide) (by decide) (by decide), y 17 (by decide) (by decide) (by decide) (by decide) (by decide) (by decide) (by decide) (by decide) (by decide) (by decide) (by decide) (by decide) (by decide), y 18 (by decide) (by decide) (by decide) (by decide) (by decide) (by decide) (by decide) (by decide) (by decide) (by decide) (by decide) (by decide) (by decide), y 24 (by decide) (by decide) (by decide) (by decide) (by decide) (by decide) (by decide) (by decide) (by decide) (by decide) (by decide) (by decide) (by decide), y 25 (by decide) (by decide) (by decide) (by decide) (by decide) (by decide) (by decide) (by decide) (by decide) (by decide) (by decide) (by decide) (by decide), y 28 (by decide) (by decide) (by decide) (by decide) (by decide) (by decide) (by decide) (by decide) (by decide) (by decide) (by decide) (by decide) (by decide), y 29 (by decide) (by decide) (by decide) (by decide) (by decide) (by decide) (by decide) (by decide) (by decide) (by decide) (by decide) (by decide) (by decide), y 30 (by decide) (by decide) (by decide) (by decide) (by decide) (by decide) (by decide) (by decide) (by decide) (by decide) (by decide) (by decide) (by decide), y 31 (by decide) (by decide) (by decide) (by decide) (by decide) (by decide) (by decide) (by decide) (by decide) (by decide) (by decide) (by decide) (by decide), y 32 (by decide) (by decide) (by decide) (by decide) (by decide) (by decide) (by decide) (by decide) (by decide) (by decide) (by decide) (by decide) (by decide), y 33 (by decide) (by decide) (by decide) (by decide) (by decide) (by decide) (by decide) (by decide) (by decide) (by decide) (by decide) (by decide) (by decide), y 34 (by decide) (by decide) (by decide) (by decide) (by decide) (by decide) (by decide) (by decide) (by decide) (by decide) (by decide) (by decide) (by decide), y 35 (by decide) (by decide) (by decide) (by decide) (by decide) (by decide) (by decide) (by decide) (by decide) (by decide) (by decide) (by decide) (by decide), y 36 (by decide) (by decide) (by decide) (by decide) (by decide) (by decide) (by decide) (by decide) (by decide) (by decide) (by decide) (by decide) (by decide), y 42 (by decide) (by decide) (by decide) (by decide) (by decide) (by decide) (by decide) (by decide) (by decide) (by decide) (by decide) (by decide) (by decide), y 43 (by decide) (by decide) (by decide) (by decide) (by decide) (by decide) (by decide) (by decide) (by decide) (by decide) (by decide) (by decide) (by decide), s6, s21, s22, z 1 (by decide) (by decide) (by decide) (by decide), z 2 (by decide) (by decide) (by decide) (by decide), z 3 (by decide) (by decide) (by decide) (by decide), z 6 (by decide) (by decide) (by decide) (by decide), z 7 (by decide) (by decide) (by decide) (by decide), z 9 (by decide) (by decide) (by decide) (by decide), z 10 (by decide) (by decide) (by decide) (by decide), z 11 (by decide) (by decide) (by decide) (by decide), z 12 (by decide) (by decide) (by decide) (by decide), z 16 (by decide) (by decide) (by decide) (by decide), z 20 (by decide) (by decide) (by decide) (by decide), z 31 (by decide) (by decide) (by decide) (by decide)]
          exact ⟨o1, o2, o3, o4, o5, o6, o7, o8, hCli, o10⟩
        · rintro r2 s2 ⟨u1, u2, u3, u4⟩
          exact cmpN u2 u4 u3 u1
    · refine ⟨fun r s => r = 2 ∧ s = σ, Or.inr ⟨fun k => k = 2, ex_wB hp0 ⟨by decide, by decide⟩ ⟨by decide, by decide⟩ (fun _ _ => ex_pl hB2 (fun z => absurd z hd) (fun _ => rfl)) (fun z => absurd hw z), fun k hk => Or.inr ⟨hk, rfl, rfl⟩⟩, ?_⟩
      rintro r1 s1 ⟨rfl, rfl⟩
      have hn : jn_M_clip_28 nn p0 s1 (fun r s => s = va_up s1 27 (va_up (s1 27) 0 2)) 2 := by
        rintro s2 rfl
        exact ⟨(⟨by decide, by decide⟩ : iR 2), fun (h : (2 : Int) ≤ 0) => absurd h (by decide), fun _ => rfl⟩
      refine ⟨fun r s => s = va_up s1 27 (va_up (s1 27) 0 2), ex_mB hp0 ⟨by decide, by decide⟩ ⟨by decide, by decide⟩ (fun _ _ => ⟨⟨by omega, by omega⟩, fun _ => hn, fun z => by omega⟩) (fun z => absurd hw z), ?_⟩
      rintro r2 s2 rfl
      exact cmpT rfl (Or.inr rfl) hR.thr
  · refine ⟨fun r s => r = 1 ∧ s = σ, Or.inr ⟨fun k => k = 1, ex_wB hp0 ⟨by decide, by decide⟩ ⟨by decide, by decide⟩ (fun a b => absurd ⟨a, b⟩ hw) (fun _ => rfl), fun k hk => Or.inl ⟨hk, rfl, rfl⟩⟩, ?_⟩
    rintro r1 s1 ⟨rfl, rfl⟩
    have hn : jn_M_clip_28 nn p0 s1 (fun r s => s = va_up s1 27 (va_up (s1 27) 0 1)) 1 := by
      rintro s2 rfl
      exact ⟨(⟨by decide, by decide⟩ : iR 1), fun (h : (1 : Int) ≤ 0) => absurd h (by decide), fun _ => rfl⟩
    refine ⟨fun r s => s = va_up s1 27 (va_up (s1 27) 0 1), ex_mB hp0 ⟨by decide, by decide⟩ ⟨by decide, by decide⟩ (fun a b => absurd ⟨a, b⟩ hw) (fun _ => hn), ?_⟩
    rintro r2 s2 rfl
    exact cmpT rfl (Or.inl rfl) hR.thr
