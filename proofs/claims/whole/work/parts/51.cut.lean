/-! the class clips -/
def plF (r t u : Int) (a b : Nat → Int) : Nat → Int := fun f => plc r t u (a f) (b f)
theorem c_marks {nn : Nat → Nat} {σ : kM} {T st : Int} {Pr : kM → Prop} (hb : Rb (σ 3 1) (σ 3 2) (σ 3 3)) (hc : 0 ≤ σ 4 3 ∧ σ 4 3 ≤ 16) (hF : ∀ j, 0 ≤ σ 13 j ∧ σ 13 j ≤ 359 ∧ 0 ≤ σ 14 j ∧ σ 14 j ≤ 1000) (hT : σ 6 6 = T) (hT0 : 0 ≤ T ∧ T ≤ 2000) (hst : 1 ≤ st ∧ st ≤ 1000) (kk : ∀ s : kM, (∀ c, c ≠ 19 → s c = σ c) → (∀ j : Nat, (j : Int) < T → s 19 j = mkA (plF (σ 3 1) (σ 3 2) (σ 3 3) (σ 13) (σ 14)) (σ 15) st (σ 4 3).toNat j) → Pr s) : wp_C_markFaults nn σ st Pr := by
  have hL := lp2 (lp_C_markFaults_3 nn (fun _ s => (∀ c, c ≠ 19 → s c = σ c) ∧ ∀ j : Nat, (j : Int) < T → s 19 j = 0)) (fun v1 s => 0 ≤ v1 ∧ v1 ≤ T ∧ (∀ c, c ≠ 19 → s c = σ c) ∧ ∀ j : Nat, (j : Int) < v1 → s 19 j = 0) (fun v1 _ => (T - v1).toNat) ?_ 0 σ ⟨by omega, by omega, fun _ _ => rfl, fun j hj => by omega⟩
  · obtain ⟨k1, h⟩ := hL
    refine ⟨_, k1, h, ?_⟩
    rintro v2 s2 ⟨hf2, hz2⟩
    have hL2 := lp2 (lp_C_markFaults_29 nn st (fun _ s => (∀ c, c ≠ 19 → s c = σ c) ∧ ∀ j : Nat, (j : Int) < T → s 19 j = mkA (plF (σ 3 1) (σ 3 2) (σ 3 3) (σ 13) (σ 14)) (σ 15) st (σ 4 3).toNat j)) (fun v3 s => 0 ≤ v3 ∧ v3 ≤ σ 4 3 ∧ (∀ c, c ≠ 19 → s c = σ c) ∧ ∀ j : Nat, (j : Int) < T → s 19 j = mkA (plF (σ 3 1) (σ 3 2) (σ 3 3) (σ 13) (σ 14)) (σ 15) st v3.toNat j) (fun v3 _ => (σ 4 3 - v3).toNat) ?_ 0 s2 ⟨by omega, by omega, hf2, fun j hj => hz2 j hj⟩
    · obtain ⟨k2, h2⟩ := hL2
      exact ⟨_, k2, h2, fun v4 s4 q => kk s4 q.1 q.2⟩
    · rintro m v3 s3 ⟨g1, g2, hf, hm⟩ ih
      have e3 : s3 3 = σ 3 := hf 3 (by decide)
      have e4 : s3 4 = σ 4 := hf 4 (by decide)
      have e6 : s3 6 = σ 6 := hf 6 (by decide)
      have e13 : s3 13 = σ 13 := hf 13 (by decide)
      have e14 : s3 14 = σ 14 := hf 14 (by decide)
      have e15 : s3 15 = σ 15 := hf 15 (by decide)
      refine ⟨⟨by omega, by omega⟩, by rw [e4]; exact ⟨by omega, by omega⟩, fun h => ?_, fun h => ?_⟩
      · rw [e4] at h
        rw [show v3 = σ 4 3 by omega] at hm
        exact ⟨hf, hm⟩
      · rw [e4] at h
        have en : (v3 + 1).toNat = v3.toNat + 1 := by omega
        have hpl := plc_ge (a := σ 13 v3.toNat) (f := σ 14 v3.toNat) hb ⟨(hF _).1, (hF _).2.1⟩ (hF _).2.2.1
        refine ⟨fun r => r = plF (σ 3 1) (σ 3 2) (σ 3 3) (σ 13) (σ 14) v3.toNat, p_place (σ := s3) (by rw [e3]; exact hb) (by rw [e13, e14]; exact hF) ⟨g1, by omega⟩ (by rw [e3, e13, e14]; rfl), ?_⟩
        intro r2 hr2
        have hr3 : r2 = plc (σ 3 1) (σ 3 2) (σ 3 3) (σ 13 v3.toNat) (σ 14 v3.toNat) := hr2
        refine ⟨⟨by omega, by omega⟩, fun q => ?_, fun q => ?_⟩
        · rintro v5 rfl
          refine ih _ _ ⟨by omega, by omega, hf, ?_⟩ (by omega)
          rw [en, mkA_skip (hr2.symm.trans q)]
          exact hm
        · have d0 : 0 ≤ r2 / st := Int.ediv_nonneg (by omega) (by omega)
          have d1 : r2 / st ≤ r2 := Int.ediv_le_self _ (by omega)
          have w1 : iR r2 ∧ iR st ∧ 0 ≤ r2 ∧ 0 < st := ⟨⟨by omega, by omega⟩, ⟨by omega, by omega⟩, by omega, by omega⟩
          have hne : ¬ plF (σ 3 1) (σ 3 2) (σ 3 3) (σ 13) (σ 14) v3.toNat = -1 := fun z => q (hr2.trans z)
          refine ⟨w1, ⟨by omega, by omega⟩, by rw [e6, hT]; exact ⟨by omega, by omega⟩, fun q2 => ?_, fun q2 => ?_⟩
          · rw [e6, hT] at q2
            rintro v5 rfl
            refine ih _ _ ⟨by omega, by omega, hf, fun j hj => ?_⟩ (by omega)
            rw [en, mkA_put hne, ← hr2, up_ne _ _ (by omega)]
            exact hm j hj
          · rw [e6, hT] at q2
            refine ⟨w1, ⟨by omega, by omega, by omega⟩, fun r => r = kShl 1 (σ 15 v3.toNat), ⟨⟨by omega, by omega, by omega⟩, by rw [e15]⟩, ?_⟩
            rintro r3 rfl
            refine ⟨⟨by omega, by omega, by omega⟩, ?_⟩
            rintro s5 rfl v7 rfl
            refine ih _ _ ⟨by omega, by omega, fun c hc => by rw [up_ne _ _ hc]; exact hf c hc, fun j hj => ?_⟩ (by omega)
            rw [en, mkA_put hne, ← hr2, up_same]
            by_cases ej : j = (r2 / st).toNat
            · subst ej
              rw [up_same, up_same, hm _ (by omega)]
            · rw [up_ne _ _ ej, up_ne _ _ ej]
              exact hm j hj
  · rintro m v1 s1 ⟨g1, g2, hf, hz⟩ ih
    have e6 : s1 6 = σ 6 := hf 6 (by decide)
    refine ⟨⟨by omega, by omega⟩, by rw [e6, hT]; exact ⟨by omega, by omega⟩, fun h => ?_, fun h => ⟨⟨by rw [e6, hT] at h; omega, by rw [e6, hT] at h; omega, by rw [e6, hT] at h; omega⟩, ?_⟩⟩
    · rw [e6, hT] at h
      exact ⟨hf, fun j hj => hz j (by omega)⟩
    · rw [e6, hT] at h
      rintro s6 rfl v8 rfl
      refine ih _ _ ⟨by omega, by omega, fun c hc => by rw [up_ne _ _ hc]; exact hf c hc, fun j hj => ?_⟩ (by omega)
      rw [up_same]
      by_cases ej : j = v1.toNat
      · subst ej; rw [up_same]
      · rw [up_ne _ _ ej]; exact hz j (by omega)
/-- one step chosen -/
def FrD (σ s : kM) : Prop := ∀ c, c ≠ 20 → c ≠ 21 → c ≠ 23 → s c = σ c
theorem c_at {nn : Nat → Nat} {σ : kM} {T p : Int} {mk : Nat → Int} {Pr : kM → Prop} (hL : LW (σ 5 3) (σ 16) (σ 17) (σ 18)) (hT0 : 0 ≤ T ∧ T ≤ 2000) (hp : 0 ≤ p ∧ p < T) (hm : ∀ j : Nat, (j : Int) < T → σ 19 j = mk j) (hD : DPs T (σ 5 3) (σ 16) (σ 17) (σ 18) mk (σ 20) (p + 1)) (hC : ∀ l : Nat, (l : Int) < σ 5 3 → CU T (σ 18) mk (p + 1) l (σ 23 l)) (kk : ∀ s, FrD σ s → (∀ j, j ≠ p.toNat → s 20 j = σ 20 j) → (∀ j, j ≠ p.toNat → s 21 j = σ 21 j) → (∀ l : Nat, (l : Int) < σ 5 3 → CU T (σ 18) mk p l (s 23 l)) → DP1 T (σ 5 3) (σ 16) (σ 17) (σ 18) mk (s 20) p → ChP T (σ 5 3) (σ 16) (σ 17) (σ 18) mk (s 20) p (s 21 p.toNat) → Pr s) : wp_C_chooseAt nn σ p Pr := by
  obtain ⟨l0, l6, lb, lw⟩ := id hL
  have hbd : ∀ s : Int, p + 1 ≤ s → s ≤ T → -2000 ≤ σ 20 s.toNat ∧ σ 20 s.toNat ≤ 2001000000 * 2000 := fun s h1 h2 => by
    have := hD.bnd hL (T - s).toNat s (by omega) h1 h2
    omega
  have hmp := hm p.toNat (by omega)
  refine ⟨⟨by omega, by omega, by omega⟩, ⟨by omega, by omega, by omega⟩, ?_⟩
  rintro s1 rfl
  refine ⟨⟨by omega, by omega, by omega⟩, ?_⟩
  rintro s2 rfl v1 hv1
  have hv1 : v1 = σ 5 3 - 1 := hv1
  have hLp := lp2 (lp_C_chooseAt_30 nn p (fun _ s => FrD σ s ∧ (∀ j, j ≠ p.toNat → s 20 j = σ 20 j) ∧ (∀ j, j ≠ p.toNat → s 21 j = σ 21 j) ∧ (∀ l : Nat, (l : Int) < σ 5 3 → CU T (σ 18) mk p l (s 23 l)) ∧ XP T (σ 5 3) (σ 16) (σ 17) (σ 18) mk (σ 20) p (-1) (s 20 p.toNat) (s 21 p.toNat))) (fun v2 s => -1 ≤ v2 ∧ v2 ≤ σ 5 3 - 1 ∧ FrD σ s ∧ (∀ j, j ≠ p.toNat → s 20 j = σ 20 j) ∧ (∀ j, j ≠ p.toNat → s 21 j = σ 21 j) ∧ (∀ l : Nat, v2 < (l : Int) → (l : Int) < σ 5 3 → CU T (σ 18) mk p l (s 23 l)) ∧ (∀ l : Nat, (l : Int) ≤ v2 → CU T (σ 18) mk (p + 1) l (s 23 l)) ∧ XP T (σ 5 3) (σ 16) (σ 17) (σ 18) mk (σ 20) p v2 (s 20 p.toNat) (s 21 p.toNat)) (fun v2 _ => (v2 + 1).toNat) ?_ v1 (va_up (va_up σ 20 (va_up (σ 20) p.toNat (σ 20 (p + 1).toNat - 1))) 21 (va_up (σ 21) p.toNat (-1))) ⟨by omega, by omega, fun c c1 c2 _ => by rw [up_ne _ _ c2, up_ne _ _ c1], fun j hj => by rw [up_ne _ _ (by decide), up_same, up_ne _ _ hj], fun j hj => by rw [up_same, up_ne _ _ hj], fun l a b => by omega, fun l a => hC l (by omega), ?_⟩
  · obtain ⟨k1, h⟩ := hLp
    refine ⟨_, k1, h, ?_⟩
    rintro v3 s4 ⟨q1, q2, q3, q4, q5⟩
    obtain ⟨d1, d2⟩ := q5.done (V' := s4 20) lw hp.1 rfl q2
    exact kk s4 q1 q2 q3 q4 d1 d2
  · rintro m v2 s3 ⟨g1, g2, hf, h20, h21, hcu, hcv, hx⟩ ih
    have e5 : s3 5 = σ 5 := hf 5 (by decide) (by decide) (by decide)
    have e16 : s3 16 = σ 16 := hf 16 (by decide) (by decide) (by decide)
    have e17 : s3 17 = σ 17 := hf 17 (by decide) (by decide) (by decide)
    have e18 : s3 18 = σ 18 := hf 18 (by decide) (by decide) (by decide)
    have e19 : s3 19 = σ 19 := hf 19 (by decide) (by decide) (by decide)
    refine ⟨⟨by omega, by omega⟩, fun h => ?_, fun h => ⟨⟨by omega, by omega, by omega⟩, ?_⟩⟩
    · have e : v2 = -1 := by omega
      subst e
      exact ⟨hf, h20, h21, fun l a => hcu l (by omega) a, hx⟩
    · have hi6 : 0 ≤ v2 ∧ v2 < 6 ∧ v2 < 2147483648 := by omega
      have hwl := lb v2.toNat
      have hwl1 := lw v2.toNat (by omega)
      -- behind the clearing
      have tail : ∀ s5 : kM, FrD σ s5 → s5 20 = s3 20 → s5 21 = s3 21 → (∀ l : Nat, v2 - 1 < (l : Int) → (l : Int) < σ 5 3 → CU T (σ 18) mk p l (s5 23 l)) → (∀ l : Nat, (l : Int) ≤ v2 - 1 → CU T (σ 18) mk (p + 1) l (s5 23 l)) → jn_C_chooseAt_55 nn p v2 (lp_C_chooseAt_30 nn p (fun _ s => FrD σ s ∧ (∀ j, j ≠ p.toNat → s 20 j = σ 20 j) ∧ (∀ j, j ≠ p.toNat → s 21 j = σ 21 j) ∧ (∀ l : Nat, (l : Int) < σ 5 3 → CU T (σ 18) mk p l (s 23 l)) ∧ XP T (σ 5 3) (σ 16) (σ 17) (σ 18) mk (σ 20) p (-1) (s 20 p.toNat) (s 21 p.toNat)) m) s5 := by
        intro s5 hf5 e20 e21 hcu5 hcv5
        have f16 : s5 16 = σ 16 := hf5 16 (by decide) (by decide) (by decide)
        have f17 : s5 17 = σ 17 := hf5 17 (by decide) (by decide) (by decide)
        have hcl := hcu5 v2.toNat (by omega) (by omega)
        have hfit := hcl.fit (w := σ 16)
        refine ⟨fun r => r = σ 16 v2.toNat, ⟨hi6, by rw [f16]⟩, ?_⟩
        rintro r3 rfl v4 rfl
        refine ⟨hi6, ⟨by omega, by omega⟩, ⟨by have := hcl.1; omega, by have := hcl.2.1; omega⟩, fun q => ?_, fun q => ?_⟩
        · rintro v5 rfl
          refine ih _ _ ⟨by omega, by omega, hf5, by rw [e20]; exact h20, by rw [e21]; exact h21, fun l a c => hcu5 l (by omega) c, fun l a => hcv5 l (by omega), ?_⟩ (by omega)
          rw [e20, e21]
          exact hx.skip (by omega) (by omega) (fun z => by have := hfit.mp z; omega)
        · have hFt : Fit T (σ 16) (σ 18) mk v2.toNat p := hfit.mpr (by omega)
          have hend := hFt.1
          have hbe := hbd (p + σ 16 v2.toNat) (by omega) hend
          have hbX : -2001 ≤ s3 20 p.toNat ∧ s3 20 p.toNat ≤ 2001000000 * 2001 := by
            obtain ⟨x1, x2, x3⟩ := hx
            have hb1 := hbd (p + 1) (by omega) (by omega)
            refine ⟨by omega, ?_⟩
            rcases x3 with ⟨z1, z2, z3⟩ | ⟨z1, z2, z3, z4, z5, z6⟩
            · omega
            · have b2 := hbd (p + σ 16 (s3 21 p.toNat).toNat) (by have := lw (s3 21 p.toNat).toNat (by omega); omega) z4.1
              have b3 := lb (s3 21 p.toNat).toNat
              unfold vl at z5
              omega
          refine ⟨fun r => r = σ 17 v2.toNat, ⟨hi6, by rw [f17]⟩, ?_⟩
          rintro r4 rfl
          have ev : σ 17 v2.toNat * 2001 + s5 20 (p + σ 16 v2.toNat).toNat = vl (σ 16) (σ 17) (σ 20) v2.toNat p := by
            unfold vl
            rw [e20, h20 _ (by omega)]
          have hvb : -2001 ≤ vl (σ 16) (σ 17) (σ 20) v2.toNat p ∧ vl (σ 16) (σ 17) (σ 20) v2.toNat p ≤ 2001000000 * 2001 := by
            unfold vl
            omega
          rw [ev]
          generalize hV : vl (σ 16) (σ 17) (σ 20) v2.toNat p = VV at *
          refine ⟨⟨by omega, by omega⟩, ⟨by omega, by omega, by omega⟩, fun s => (VV < s3 20 p.toNat ∧ s = s5) ∨ (¬ VV < s3 20 p.toNat ∧ s = va_up (va_up s5 20 (va_up (s5 20) p.toNat VV)) 21 (va_up (s5 21) p.toNat v2)), ⟨⟨by omega, by omega, by omega⟩, ⟨⟨by omega, by omega⟩, by rw [e20]; exact ⟨by omega, by omega⟩⟩, fun z => ?_, fun z => ⟨⟨by omega, by omega, by omega⟩, ?_⟩⟩, ?_⟩
          · rw [e20] at z
            refine Or.inl ⟨?_, rfl⟩
            by_cases y1 : s3 20 p.toNat < VV
            · rw [if_pos y1] at z; omega
            · rw [if_neg y1] at z
              by_cases y2 : VV = s3 20 p.toNat
              · rw [if_pos y2] at z; omega
              · omega
          · rw [e20] at z
            rintro t1 rfl
            refine ⟨⟨by omega, by omega, by omega⟩, ?_⟩
            rintro t2 rfl
            refine Or.inr ⟨fun y => z ?_, rfl⟩
            rw [if_neg (by omega), if_neg (by omega)]
            decide
          · rintro s6 (⟨y, rfl⟩ | ⟨y, rfl⟩) v6 rfl
            · refine ih _ _ ⟨by omega, by omega, hf5, by rw [e20]; exact h20, by rw [e21]; exact h21, fun l a c => hcu5 l (by omega) c, fun l a => hcv5 l (by omega), ?_⟩ (by omega)
              rw [e20, e21]
              exact hx.skip (by omega) (by omega) (fun _ => by rw [hV]; exact y)
            · refine ih _ _ ⟨by omega, by omega, fun c c1 c2 c3 => by rw [up_ne _ _ c2, up_ne _ _ c1]; exact hf5 c c1 c2 c3, fun j hj => ?_, fun j hj => ?_, fun l a c => ?_, fun l a => ?_, ?_⟩ (by omega)
              · rw [up_ne _ _ (by decide), up_same, up_ne _ _ hj, e20]; exact h20 j hj
              · rw [up_same, up_ne _ _ hj, e21]; exact h21 j hj
              · rw [up_ne _ _ (by decide), up_ne _ _ (by decide)]; exact hcu5 l (by omega) c
              · rw [up_ne _ _ (by decide), up_ne _ _ (by decide)]; exact hcv5 l (by omega)
              · rw [up_ne _ _ (by decide), up_same, up_same, up_same, up_same]
                have ht := hx.take (by omega) (by omega) hFt (by rw [hV]; omega)
                rw [hV] at ht
                exact ht
      have hbl : kAnd (s3 18 v2.toNat) (s3 19 p.toNat) = kAnd (mk p.toNat) (σ 18 v2.toNat) := by rw [e18, e19, hmp, kA_comm]
      refine ⟨fun r => (r = 0 ∧ kAnd (mk p.toNat) (σ 18 v2.toNat) = 0) ∨ (r = 1 ∧ ¬ kAnd (mk p.toNat) (σ 18 v2.toNat) = 0), ⟨hi6, kA_in _ _, fun q => Or.inl ⟨rfl, by rw [← hbl]; exact q⟩, fun q => Or.inr ⟨rfl, by rw [← hbl]; exact q⟩⟩, ?_⟩
      rintro r2 (⟨rfl, q⟩ | ⟨rfl, q⟩)
      · refine ⟨iR_0, fun _ => tail s3 hf rfl rfl (fun l a c => ?_) (fun l a => hcv l (by omega)), fun z => absurd rfl z⟩
        by_cases e : v2 < (l : Int)
        · exact hcu l e c
        · have el : l = v2.toNat := by omega
          rw [el]
          exact (hcv v2.toNat (by omega)).pass q
      · refine ⟨⟨by decide, by decide⟩, fun z => absurd z (by decide), fun _ => ⟨hi6, ?_⟩⟩
        rintro s7 rfl
        refine tail _ (fun c c1 c2 c3 => by rw [up_ne _ _ c3]; exact hf c c1 c2 c3) (up_ne _ _ (by decide)) (up_ne _ _ (by decide)) (fun l a c => ?_) (fun l a => ?_)
        · rw [up_same]
          by_cases e : l = v2.toNat
          · subst e
            rw [up_same]
            exact CU.bar (u := 0) hp.2 q
          · rw [up_ne _ _ e]; exact hcu l (by omega) c
        · rw [up_same, up_ne _ _ (by omega)]
          exact hcv l (by omega)
  · rw [up_ne _ _ (show (20 : Nat) ≠ 21 by decide), up_same, up_same, up_same, up_same]
    refine ⟨Int.le_refl _, fun l a b => by omega, Or.inl ⟨rfl, rfl, fun l a b => by omega⟩⟩
theorem c_end {nn : Nat → Nat} {σ : kM} {T : Int} {mk : Nat → Int} {Pr : kM → Prop} (hL : LW (σ 5 3) (σ 16) (σ 17) (σ 18)) (hT : σ 6 6 = T) (hT0 : 0 ≤ T ∧ T ≤ 2000) (hm : ∀ j : Nat, (j : Int) < T → σ 19 j = mk j) (kk : ∀ s, FrD σ s → DPs T (σ 5 3) (σ 16) (σ 17) (σ 18) mk (s 20) 0 → (∀ x : Int, 0 ≤ x → x < T → ChP T (σ 5 3) (σ 16) (σ 17) (σ 18) mk (s 20) x (s 21 x.toNat)) → Pr s) : wp_C_chooseFromTheEnd nn σ Pr := by
  obtain ⟨l0, l6, lb, lw⟩ := id hL
  have hw0 : ∀ j, 0 ≤ σ 16 j := fun j => (lb j).1
  have hLp := lp2 (lp_C_chooseFromTheEnd_2 nn (fun _ s => (∀ c, c ≠ 23 → s c = σ c) ∧ ∀ l : Nat, (l : Int) < σ 5 3 → s 23 l = T)) (fun v1 s => 0 ≤ v1 ∧ v1 ≤ σ 5 3 ∧ (∀ c, c ≠ 23 → s c = σ c) ∧ ∀ l : Nat, (l : Int) < v1 → s 23 l = T) (fun v1 _ => (σ 5 3 - v1).toNat) ?_ 0 σ ⟨by omega, by omega, fun _ _ => rfl, fun l h => by omega⟩
  · obtain ⟨k1, h⟩ := hLp
    refine ⟨_, k1, h, ?_⟩
    rintro v2 s2 ⟨hf2, hc2⟩
    have e6 : s2 6 = σ 6 := hf2 6 (by decide)
    rw [e6, hT]
    refine ⟨⟨by omega, by omega, by omega⟩, ?_⟩
    rintro s3 rfl v3 hv3
    have hv3 : v3 = T - 1 := by
      rw [hv3, up_ne _ _ (by decide), e6, hT]
    have hLp2 := lp2 (lp_C_chooseFromTheEnd_43 nn (fun _ s => FrD σ s ∧ DPs T (σ 5 3) (σ 16) (σ 17) (σ 18) mk (s 20) 0 ∧ ∀ x : Int, 0 ≤ x → x < T → ChP T (σ 5 3) (σ 16) (σ 17) (σ 18) mk (s 20) x (s 21 x.toNat))) (fun v4 s => -1 ≤ v4 ∧ v4 ≤ T - 1 ∧ FrD σ s ∧ DPs T (σ 5 3) (σ 16) (σ 17) (σ 18) mk (s 20) (v4 + 1) ∧ (∀ x : Int, v4 + 1 ≤ x → x < T → ChP T (σ 5 3) (σ 16) (σ 17) (σ 18) mk (s 20) x (s 21 x.toNat)) ∧ ∀ l : Nat, (l : Int) < σ 5 3 → CU T (σ 18) mk (v4 + 1) l (s 23 l)) (fun v4 _ => (v4 + 1).toNat) ?_ v3 (va_up s2 20 (va_up (s2 20) T.toNat 0)) ⟨by omega, by omega, fun c c1 c2 c3 => by rw [up_ne _ _ c1]; exact hf2 c c3, ⟨by rw [up_same, up_same], fun s a b => by omega⟩, fun x a b => by omega, fun l hl => ?_⟩
    · obtain ⟨k2, h2⟩ := hLp2
      exact ⟨_, k2, h2, fun v5 s5 q => kk s5 q.1 q.2.1 q.2.2⟩
    · rintro m v4 s4 ⟨g1, g2, hf, hD, hCh, hCu⟩ ih
      have e5 : s4 5 = σ 5 := hf 5 (by decide) (by decide) (by decide)
      have e16 : s4 16 = σ 16 := hf 16 (by decide) (by decide) (by decide)
      have e17 : s4 17 = σ 17 := hf 17 (by decide) (by decide) (by decide)
      have e18 : s4 18 = σ 18 := hf 18 (by decide) (by decide) (by decide)
      have e19 : s4 19 = σ 19 := hf 19 (by decide) (by decide) (by decide)
      refine ⟨⟨by omega, by omega⟩, fun h => ?_, fun h => ?_⟩
      · have e : v4 + 1 = 0 := by omega
        rw [e] at hD hCh
        exact ⟨hf, hD, hCh⟩
      · refine ⟨fun s => FrD σ s ∧ DPs T (σ 5 3) (σ 16) (σ 17) (σ 18) mk (s 20) v4 ∧ (∀ x : Int, v4 ≤ x → x < T → ChP T (σ 5 3) (σ 16) (σ 17) (σ 18) mk (s 20) x (s 21 x.toNat)) ∧ ∀ l : Nat, (l : Int) < σ 5 3 → CU T (σ 18) mk v4 l (s 23 l), c_at (σ := s4) (mk := mk) (by rw [e5, e16, e17, e18]; exact hL) hT0 ⟨by omega, by omega⟩ (by rw [e19]; exact hm) (by rw [e5, e16, e17, e18]; exact hD) (by rw [e5, e18]; exact hCu) (fun s q1 q2 q3 q4 q5 q6 => ?_), ?_⟩
        · rw [e5, e18] at q4
          rw [e5, e16, e17, e18] at q5 q6
          have hag : ∀ j : Int, v4 + 1 ≤ j → j ≤ T → s4 20 j.toNat = s 20 j.toNat := fun j a b => (q2 j.toNat (by omega)).symm
          refine ⟨fun c c1 c2 c3 => (q1 c c1 c2 c3).trans (hf c c1 c2 c3), ⟨?_, fun x a b => ?_⟩, fun x a b => ?_, q4⟩
          · rw [← hag T (by omega) (by omega)]; exact hD.1
          · by_cases ex : x = v4
            · rw [ex]; exact q5
            · exact (hD.2 x (by omega) b).cg hw0 (fun j a1 a2 => hag j (by omega) a2) b
          · by_cases ex : x = v4
            · rw [ex]; exact q6
            · rw [q3 x.toNat (by omega)]
              exact (hCh x (by omega) b).cg hw0 (fun j a1 a2 => hag j (by omega) a2) b
        · rintro s6 ⟨q1, q2, q3, q4⟩ v6 rfl
          refine ih _ _ ⟨by omega, by omega, q1, ?_, ?_, ?_⟩ (by omega)
          · rw [show v4 + -1 + 1 = v4 by omega]; exact q2
          · rw [show v4 + -1 + 1 = v4 by omega]; exact q3
          · rw [show v4 + -1 + 1 = v4 by omega]; exact q4
    · rw [up_ne _ _ (show (23 : Nat) ≠ 20 by decide), hc2 l hl]
      exact ⟨by omega, by omega, fun k a b => by omega, Or.inl rfl⟩
  · rintro m v1 s1 ⟨g1, g2, hf, hc⟩ ih
    have e5 : s1 5 = σ 5 := hf 5 (by decide)
    have e6 : s1 6 = σ 6 := hf 6 (by decide)
    refine ⟨⟨by omega, by omega⟩, by rw [e5]; exact ⟨by omega, by omega⟩, fun h => ?_, fun h => ?_⟩
    · rw [e5] at h
      exact ⟨hf, fun l hl => hc l (by omega)⟩
    · rw [e5] at h
      refine ⟨⟨by omega, by omega, by omega⟩, ?_⟩
      rw [e6, hT]
      rintro s7 rfl v7 rfl
      refine ih _ _ ⟨by omega, by omega, fun c hc => by rw [up_ne _ _ hc]; exact hf c hc, fun l hl => ?_⟩ (by omega)
      rw [up_same]
      by_cases e : l = v1.toNat
      · subst e; rw [up_same]
      · rw [up_ne _ _ e]; exact hc l (by omega)
