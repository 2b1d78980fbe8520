/-! the reference lists -/
theorem m_pick {nn : Nat → Nat} {σ : kM} {T s c : Int} {mk : Nat → Int} {G : Int → Prop} (hL : LW (σ 27 20) (σ 34) (σ 35) (σ 36)) (hT : σ 27 22 = T) (hT0 : 0 ≤ T ∧ T ≤ 2000) (hm : ∀ j : Nat, (j : Int) ≤ 2000 → σ 37 j = mk j) (hB : BB T (σ 38) (σ 39) 0) (hs : 0 ≤ s ∧ s < T) (hc : ChP T (σ 27 20) (σ 34) (σ 35) (σ 36) mk (bw (σ 38) (σ 39)) s c) (kn : c = -1 → G (σ 27 20)) (kl : 0 ≤ c → c < σ 27 20 → G c) : ∃ (Pe5 : Int → Prop) (k5 : Nat), lp_M_clip_319 nn s σ Pe5 k5 0 ∧ ∀ (v13 : Int), Pe5 v13 → G v13 := by
  obtain ⟨l0, l6, lb, lw⟩ := id hL
  have hBs : BB T (σ 38) (σ 39) s := fun j a b => hB j (by omega) b
  have hLp := lp1 (lp_M_clip_319 nn s σ G) (fun l => 0 ≤ l ∧ l ≤ σ 27 20 ∧ ∀ i : Nat, (i : Int) < l → Fit T (σ 34) (σ 36) mk i s → ¬ vl (σ 34) (σ 35) (bw (σ 38) (σ 39)) i s = bw (σ 38) (σ 39) s.toNat) (fun l => (σ 27 20 - l).toNat) ?_ 0 ⟨by omega, by omega, fun i hi => by omega⟩
  · obtain ⟨k5, h⟩ := hLp
    exact ⟨G, k5, h, fun v q => q⟩
  · rintro m l ⟨h1, h2, h3⟩ ih
    refine ⟨⟨by omega, by omega⟩, ⟨by omega, by omega⟩, fun h => ?_, fun h => ?_⟩
    · have e : l = σ 27 20 := by omega
      rw [e]
      exact kn (ChP.one (c := -1) (Or.inl ⟨rfl, fun i hi hf => h3 i (by omega) hf⟩) hc)
    · refine ⟨fun r => (r = 1 ∧ Fit T (σ 34) (σ 36) mk l.toNat s) ∨ (r = 0 ∧ ¬ Fit T (σ 34) (σ 36) mk l.toNat s), m_fits hL hT hT0 hm ⟨h1, by omega⟩ hs (fun q => Or.inl ⟨rfl, q⟩) (fun q => Or.inr ⟨rfl, q⟩), ?_⟩
      have next : (Fit T (σ 34) (σ 36) mk l.toNat s → ¬ vl (σ 34) (σ 35) (bw (σ 38) (σ 39)) l.toNat s = bw (σ 38) (σ 39) s.toNat) → lp_M_clip_319 nn s σ G m (l + 1) := fun hn => by
        refine ih _ ⟨by omega, by omega, fun i hi hf => ?_⟩ (by omega)
        by_cases e : (i : Int) < l
        · exact h3 i e hf
        · have ei : i = l.toNat := by omega
          rw [ei] at hf ⊢
          exact hn hf
      rintro r3 (⟨rfl, hfit⟩ | ⟨rfl, hfit⟩)
      · refine ⟨⟨by decide, by decide⟩, fun z => absurd z (by decide), fun _ => ?_⟩
        refine ⟨fun r => (r = 0 ∧ vl (σ 34) (σ 35) (bw (σ 38) (σ 39)) l.toNat s = bw (σ 38) (σ 39) s.toNat) ∨ ((r = 1 ∨ r = -1) ∧ ¬ vl (σ 34) (σ 35) (bw (σ 38) (σ 39)) l.toNat s = bw (σ 38) (σ 39) s.toNat), m_side (mk := mk) hL hT0 ⟨h1, by omega⟩ hs hfit hBs (fun q => Or.inr ⟨Or.inl rfl, by omega⟩) (fun q => Or.inl ⟨rfl, q⟩) (fun q => Or.inr ⟨Or.inr rfl, by omega⟩), ?_⟩
        rintro r4 (⟨rfl, q⟩ | ⟨q1, q⟩)
        · refine ⟨iR_0, fun _ => ?_, fun z => absurd rfl z⟩
          have e : l = c := ChP.one hc (Or.inr ⟨h1, by omega, hfit, q, fun i hi hf => h3 i hi hf⟩)
          rw [e]
          exact kl (by omega) (by omega)
        · refine ⟨⟨by omega, by omega⟩, fun z => by omega, fun _ => ?_⟩
          rintro v17 rfl
          exact next (fun _ => q)
      · refine ⟨iR_0, fun _ => ?_, fun z => absurd rfl z⟩
        rintro v16 rfl
        exact next (fun z => absurd z hfit)
def FrG (σ s : kM) : Prop := (∀ k, k ≠ 27 → k ≠ 40 → k ≠ 41 → s k = σ k) ∧ ∀ j, j ≠ 28 → s 27 j = σ 27 j
theorem m_greedy {nn : Nat → Nat} {σ : kM} {T C : Int} {mk c f : Nat → Int} {G : kM → Prop} (hL : LW (σ 27 20) (σ 34) (σ 35) (σ 36)) (hT : σ 27 22 = T) (hT0 : 0 ≤ T ∧ T ≤ 2000) (hm : ∀ j : Nat, (j : Int) ≤ 2000 → σ 37 j = mk j) (hB : BB T (σ 38) (σ 39) 0) (hc : ∀ x : Int, 0 ≤ x → x < T → ChP T (σ 27 20) (σ 34) (σ 35) (σ 36) mk (bw (σ 38) (σ 39)) x (c x.toNat)) (hR : RecC T (σ 34) c f C) (hC : C ≤ 2000) (h28 : σ 27 28 = 0) (kk : ∀ s, FrG σ s → s 27 28 = C → (∀ k : Nat, (k : Int) < C → s 41 k = f k ∧ s 40 k = c (f k).toNat) → G s) : ∃ (Pe4 : Int → kM → Prop) (k4 : Nat), lp_M_clip_309 nn Pe4 k4 0 σ ∧ ∀ (v11 : Int) (s14 : kM), Pe4 v11 s14 → G s14 := by
  obtain ⟨l0, l6, lb, lw⟩ := id hL
  obtain ⟨r1, r2, r3⟩ := hR
  have hLp := lp2 (lp_M_clip_309 nn (fun _ s => FrG σ s ∧ s 27 28 = C ∧ ∀ k : Nat, (k : Int) < C → s 41 k = f k ∧ s 40 k = c (f k).toNat)) (fun x s => (0 ≤ x ∧ x ≤ T) ∧ FrG σ s ∧ (0 ≤ s 27 28 ∧ s 27 28 ≤ C) ∧ eN (σ 34) c f (s 27 28).toNat ≤ x ∧ (∀ j : Int, eN (σ 34) c f (s 27 28).toNat ≤ j → j < x → c j.toNat = -1) ∧ ∀ k : Nat, (k : Int) < s 27 28 → s 41 k = f k ∧ s 40 k = c (f k).toNat) (fun x _ => (T - x).toNat) ?_ 0 σ ⟨by omega, ⟨fun _ _ _ _ => rfl, fun _ _ => rfl⟩, by omega, by rw [h28]; exact Int.le_refl 0, fun j a b => by rw [h28] at a; have a : (0 : Int) ≤ j := a; omega, fun k hk => by omega⟩
  · obtain ⟨k4, h⟩ := hLp
    exact ⟨_, k4, h, fun v11 s14 q => kk s14 q.1 q.2.1 q.2.2⟩
  · rintro m x s ⟨hx, hf, hn, he, hz, hk⟩ ih
    have e22 : s 27 22 = T := (hf.2 22 (by decide)).trans hT
    have e20 : s 27 20 = σ 27 20 := hf.2 20 (by decide)
    have e34 : s 34 = σ 34 := hf.1 34 (by decide) (by decide) (by decide)
    have e35 : s 35 = σ 35 := hf.1 35 (by decide) (by decide) (by decide)
    have e36 : s 36 = σ 36 := hf.1 36 (by decide) (by decide) (by decide)
    have e37 : s 37 = σ 37 := hf.1 37 (by decide) (by decide) (by decide)
    have e38 : s 38 = σ 38 := hf.1 38 (by decide) (by decide) (by decide)
    have e39 : s 39 = σ 39 := hf.1 39 (by decide) (by decide) (by decide)
    refine ⟨⟨by omega, by omega⟩, by rw [e22]; exact ⟨by omega, by omega⟩, fun h => ?_, fun h => ?_⟩
    · rw [e22] at h
      have eC : s 27 28 = C := by
        by_cases q : s 27 28 < C
        · obtain ⟨p1, p2, p3, p4, p5⟩ := r2 (s 27 28).toNat (by omega)
          exact absurd (hz (f (s 27 28).toNat) p1 (by omega)) p5
        · omega
      exact ⟨hf, eC, fun k q => hk k (by omega)⟩
    · rw [e22] at h
      have hs : 0 ≤ x ∧ x < T := by omega
      have hcx := hc x hs.1 hs.2
      refine m_pick (σ := s) (mk := mk) (T := T) (c := c x.toNat) (by rw [e20, e34, e35, e36]; exact hL) e22 hT0 (by rw [e37]; exact hm) (by rw [e38, e39]; exact hB) hs (by rw [e20, e34, e35, e36, e38, e39]; exact hcx) (fun q => ?_) (fun q1 q2 => ?_)
      · refine ⟨by rw [e20]; exact ⟨by omega, by omega⟩, by rw [e20]; exact ⟨by omega, by omega⟩, fun _ => ?_, fun z => absurd (Int.le_refl _) z⟩
        rintro v14 rfl
        refine ih _ _ ⟨by omega, hf, hn, by omega, fun j a b => ?_, hk⟩ (by omega)
        by_cases ej : j = x
        · rw [ej]; exact q
        · exact hz j a (by omega)
      · rw [e20] at q2
        rcases hcx with ⟨z, -⟩ | ⟨z1, z2, z3, z4, z5⟩
        · omega
        · have hi6 : 0 ≤ c x.toNat ∧ c x.toNat < 6 ∧ c x.toNat < 2147483648 := by omega
          have hw1 := lw (c x.toNat).toNat (by omega)
          have hlt : s 27 28 < C := by
            by_cases q : s 27 28 < C
            · exact q
            · have e : s 27 28 = C := by omega
              rw [e] at he
              have := r3 x he hs.2
              omega
          obtain ⟨p1, p2, p3, p4, p5⟩ := r2 (s 27 28).toNat (by omega)
          have hfx : f (s 27 28).toNat = x := by
            by_cases a1 : f (s 27 28).toNat < x
            · exact absurd (hz (f (s 27 28).toNat) p1 a1) p5
            · by_cases a2 : x < f (s 27 28).toNat
              · have := p4 x he a2
                omega
              · omega
          refine ⟨⟨by omega, by omega⟩, by rw [e20]; exact ⟨by omega, by omega⟩, fun z => by rw [e20] at z; omega, fun _ => ⟨⟨hn.1, by omega, by omega⟩, ?_⟩⟩
          rintro t16 rfl
          refine ⟨⟨hn.1, (show s 27 28 < 2000 by omega), (show s 27 28 < 2147483648 by omega)⟩, ?_⟩
          rintro t17 rfl t18 rfl
          refine ⟨hi6, ?_⟩
          rintro v15 hv15
          have hv15 : v15 = x + σ 34 (c x.toNat).toNat := by
            rw [hv15]
            show x + s 34 (c x.toNat).toNat = _
            rw [e34]
          subst hv15
          have e28' : (s 27 28 + 1).toNat = (s 27 28).toNat + 1 := by omega
          have heN : eN (σ 34) c f (s 27 28 + 1).toNat = x + σ 34 (c x.toNat).toNat := by
            rw [e28']
            show f (s 27 28).toNat + σ 34 (c (f (s 27 28).toNat).toNat).toNat = _
            rw [hfx]
          refine ih _ _ ⟨⟨by omega, z3.1⟩, ⟨fun k k1 k2 k3 => ?_, fun j hj => ?_⟩, (show 0 ≤ s 27 28 + 1 ∧ s 27 28 + 1 ≤ C by omega), ?_, fun j a b => ?_, fun k hk2 => ?_⟩ (by omega)
          · rw [up_ne _ _ k1, up_ne _ _ k3, up_ne _ _ k2]; exact hf.1 k k1 k2 k3
          · rw [up_same, up_ne _ _ hj, up_ne _ _ (show (27 : Nat) ≠ 41 by decide), up_ne _ _ (show (27 : Nat) ≠ 40 by decide)]; exact hf.2 j hj
          · show eN (σ 34) c f (s 27 28 + 1).toNat ≤ _
            rw [heN]; exact Int.le_refl _
          · have a : eN (σ 34) c f (s 27 28 + 1).toNat ≤ j := a
            rw [heN] at a
            omega
          · have hk2 : (k : Int) < s 27 28 + 1 := hk2
            show va_up (s 41) (s 27 28).toNat x k = f k ∧ va_up (s 40) (s 27 28).toNat (c x.toNat) k = c (f k).toNat
            by_cases ek : k = (s 27 28).toNat
            · subst ek
              rw [up_same, up_same, hfx]
              exact ⟨rfl, rfl⟩
            · rw [up_ne _ _ ek, up_ne _ _ ek]
              exact hk k (by omega)
theorem m_marks {nn : Nat → Nat} {σ : kM} {st : Int} {G : kM → Prop} (hb : Rb (σ 27 12) (σ 27 10) (σ 27 11)) (hc : 0 ≤ σ 27 16 ∧ σ 27 16 ≤ 16) (hF : ∀ j, 0 ≤ σ 31 j ∧ σ 31 j ≤ 359 ∧ 0 ≤ σ 32 j ∧ σ 32 j ≤ 1000) (hst : 1 ≤ st ∧ st ≤ 1000) (kk : ∀ s : kM, (∀ c, c ≠ 37 → s c = σ c) → (∀ j : Nat, (j : Int) ≤ 2000 → s 37 j = mkA (plF (σ 27 12) (σ 27 10) (σ 27 11) (σ 31) (σ 32)) (σ 33) st (σ 27 16).toNat j) → G s) : ∃ (Pe1 : Int → kM → Prop) (k1 : Nat), lp_M_clip_80 nn Pe1 k1 0 σ ∧ ∀ (v4 : Int) (s5 : kM), Pe1 v4 s5 → ∃ (Pe2 : Int → kM → Prop) (k2 : Nat), lp_M_clip_102 nn st Pe2 k2 0 s5 ∧ ∀ (v6 : Int) (s7 : kM), Pe2 v6 s7 → G s7 := by
  have hL := lp2 (lp_M_clip_80 nn (fun _ s => (∀ c, c ≠ 37 → s c = σ c) ∧ ∀ j : Nat, (j : Int) ≤ 2000 → s 37 j = 0)) (fun v1 s => 0 ≤ v1 ∧ v1 ≤ 2001 ∧ (∀ c, c ≠ 37 → s c = σ c) ∧ ∀ j : Nat, (j : Int) < v1 → s 37 j = 0) (fun v1 _ => (2001 - v1).toNat) ?_ 0 σ ⟨by omega, by omega, fun _ _ => rfl, fun j hj => by omega⟩
  · obtain ⟨k1, h⟩ := hL
    refine ⟨_, k1, h, ?_⟩
    rintro v2 s2 ⟨hf2, hz2⟩
    have hL2 := lp2 (lp_M_clip_102 nn st (fun _ s => (∀ c, c ≠ 37 → s c = σ c) ∧ ∀ j : Nat, (j : Int) ≤ 2000 → s 37 j = mkA (plF (σ 27 12) (σ 27 10) (σ 27 11) (σ 31) (σ 32)) (σ 33) st (σ 27 16).toNat j)) (fun v3 s => 0 ≤ v3 ∧ v3 ≤ σ 27 16 ∧ (∀ c, c ≠ 37 → s c = σ c) ∧ ∀ j : Nat, (j : Int) ≤ 2000 → s 37 j = mkA (plF (σ 27 12) (σ 27 10) (σ 27 11) (σ 31) (σ 32)) (σ 33) st v3.toNat j) (fun v3 _ => (σ 27 16 - v3).toNat) ?_ 0 s2 ⟨by omega, by omega, hf2, fun j hj => hz2 j hj⟩
    · obtain ⟨k2, h2⟩ := hL2
      exact ⟨_, k2, h2, fun v4 s4 q => kk s4 q.1 q.2⟩
    · rintro m v3 s3 ⟨g1, g2, hf, hm⟩ ih
      have e27 : s3 27 = σ 27 := hf 27 (by decide)
      have e31 : s3 31 = σ 31 := hf 31 (by decide)
      have e32 : s3 32 = σ 32 := hf 32 (by decide)
      have e33 : s3 33 = σ 33 := hf 33 (by decide)
      refine ⟨⟨by omega, by omega⟩, by rw [e27]; exact ⟨by omega, by omega⟩, fun h => ?_, fun h => ?_⟩
      · rw [e27] at h
        rw [show v3 = σ 27 16 by omega] at hm
        exact ⟨hf, hm⟩
      · rw [e27] at h
        have en : (v3 + 1).toNat = v3.toNat + 1 := by omega
        have hpl := plc_ge (a := σ 31 v3.toNat) (f := σ 32 v3.toNat) hb ⟨(hF _).1, (hF _).2.1⟩ (hF _).2.2.1
        refine ⟨fun r => r = plF (σ 27 12) (σ 27 10) (σ 27 11) (σ 31) (σ 32) v3.toNat, m_place (σ := s3) (by rw [e27]; exact hb) (by rw [e31, e32]; exact hF) ⟨g1, by omega⟩ (by rw [e27, e31, e32]; rfl), ?_⟩
        intro r2 hr2
        have hr3 : r2 = plc (σ 27 12) (σ 27 10) (σ 27 11) (σ 31 v3.toNat) (σ 32 v3.toNat) := hr2
        refine ⟨⟨by omega, by omega⟩, fun q => ?_, fun q => ?_⟩
        · rintro v5 rfl
          refine ih _ _ ⟨by omega, by omega, hf, ?_⟩ (by omega)
          rw [en, mkA_skip (hr2.symm.trans q)]
          exact hm
        · have d0 : 0 ≤ r2 / st := Int.ediv_nonneg (by omega) (by omega)
          have d1 : r2 / st ≤ r2 := Int.ediv_le_self _ (by omega)
          have w1 : iR r2 ∧ iR st ∧ 0 ≤ r2 ∧ 0 < st := ⟨⟨by omega, by omega⟩, ⟨by omega, by omega⟩, by omega, by omega⟩
          have hne : ¬ plF (σ 27 12) (σ 27 10) (σ 27 11) (σ 31) (σ 32) v3.toNat = -1 := fun z => q (hr2.trans z)
          refine ⟨w1, ⟨by omega, by omega⟩, fun q2 => ?_, fun q2 => ?_⟩
          · rintro v5 rfl
            refine ih _ _ ⟨by omega, by omega, hf, fun j hj => ?_⟩ (by omega)
            rw [en, mkA_put hne, ← hr2, up_ne _ _ (by omega)]
            exact hm j hj
          · have hix : 0 ≤ r2 / st ∧ r2 / st < 2001 ∧ r2 / st < 2147483648 := by omega
            refine ⟨w1, hix, ⟨g1, by omega, by omega⟩, hix, ?_⟩
            rw [e33]
            rintro s5 rfl v7 rfl
            refine ih _ _ ⟨by omega, by omega, fun c hc => by rw [up_ne _ _ hc]; exact hf c hc, fun j hj => ?_⟩ (by omega)
            rw [en, mkA_put hne, ← hr2, up_same]
            by_cases ej : j = (r2 / st).toNat
            · subst ej
              rw [up_same, up_same, hm _ (by omega)]
            · rw [up_ne _ _ ej, up_ne _ _ ej]
              exact hm j hj
  · rintro m v1 s1 ⟨g1, g2, hf, hz⟩ ih
    refine ⟨⟨by omega, by omega⟩, fun h => ⟨hf, fun j hj => hz j (by omega)⟩, fun h => ⟨⟨by omega, by omega, by omega⟩, ?_⟩⟩
    rintro s6 rfl v8 rfl
    refine ih _ _ ⟨by omega, by omega, fun c hc => by rw [up_ne _ _ hc]; exact hf c hc, fun j hj => ?_⟩ (by omega)
    rw [up_same]
    by_cases ej : j = v1.toNat
    · subst ej; rw [up_same]
    · rw [up_ne _ _ ej]; exact hz j (by omega)
