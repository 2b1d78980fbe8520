/-! the reference clips -/
def bw (a b : Nat → Int) : Nat → Int := fun j => a j * 2001 - b j
def BB (T : Int) (a b : Nat → Int) (s0 : Int) : Prop := ∀ j : Int, s0 ≤ j → j ≤ T → (0 ≤ a j.toNat ∧ a j.toNat ≤ 1000000 * (T - j)) ∧ (0 ≤ b j.toNat ∧ b j.toNat ≤ T - j)
theorem m_fits {nn : Nat → Nat} {σ : kM} {T l s : Int} {mk : Nat → Int} {Pr : Int → Prop} (hL : LW (σ 27 20) (σ 34) (σ 35) (σ 36)) (hT : σ 27 22 = T) (hT0 : 0 ≤ T ∧ T ≤ 2000) (hm : ∀ j : Nat, (j : Int) ≤ 2000 → σ 37 j = mk j) (hl : 0 ≤ l ∧ l < σ 27 20) (hs : 0 ≤ s ∧ s < T) (k1 : Fit T (σ 34) (σ 36) mk l.toNat s → Pr 1) (k0 : ¬ Fit T (σ 34) (σ 36) mk l.toNat s → Pr 0) : wp_M_fits nn σ l s Pr := by
  obtain ⟨l0, l6, lb, lw⟩ := id hL
  have hi6 : 0 ≤ l ∧ l < 6 ∧ l < 2147483648 := by omega
  have hw := lb l.toNat
  have loop : ∀ v1 : Int, (v1 = 1 ∧ s + σ 34 l.toNat ≤ T) ∨ (v1 = 0 ∧ ¬ s + σ 34 l.toNat ≤ T) → jn_M_fits_20 nn l s σ Pr v1 := by
    intro v1 hv1
    have hLp := lp2 (lp_M_fits_24 nn l s σ (fun _ v5 => (v5 = 1 ∧ Fit T (σ 34) (σ 36) mk l.toNat s) ∨ (v5 = 0 ∧ ¬ Fit T (σ 34) (σ 36) mk l.toNat s))) (fun v2 v3 => (v3 = 1 ∧ s ≤ v2 ∧ v2 ≤ s + σ 34 l.toNat ∧ s + σ 34 l.toNat ≤ T ∧ ∀ k : Int, s ≤ k → k < v2 → kAnd (mk k.toNat) (σ 36 l.toNat) = 0) ∨ (v3 = 0 ∧ ¬ Fit T (σ 34) (σ 36) mk l.toNat s)) (fun v2 _ => (s + σ 34 l.toNat - v2).toNat) ?_ s v1 ?_
    · obtain ⟨k2, h⟩ := hLp
      refine ⟨_, k2, h, ?_⟩
      rintro v4 v5 (⟨rfl, q⟩ | ⟨rfl, q⟩)
      · exact ⟨Or.inr rfl, k1 q⟩
      · exact ⟨Or.inl rfl, k0 q⟩
    · rintro m v2 v3 hI ih
      rcases hI with ⟨rfl, h1, h2, h3, h4⟩ | ⟨rfl, h1⟩
      · refine ⟨⟨by decide, by decide⟩, fun z => absurd z (by decide), fun _ => ⟨hi6, ⟨by omega, by omega⟩, ⟨by omega, by omega⟩, fun h5 => ?_, fun h5 => ?_⟩⟩
        · exact Or.inl ⟨rfl, h3, fun k a b => h4 k a (by omega)⟩
        · have e := hm v2.toNat (by omega)
          refine ⟨⟨by omega, by omega, by omega⟩, hi6, kA_in _ _, fun h6 => ?_, fun h6 => ?_⟩
          · rintro v6 rfl
            refine ih _ _ (Or.inr ⟨rfl, fun q => h6 ?_⟩) (by omega)
            rw [e]
            exact q.2 v2 h1 (by omega)
          · rintro v7 rfl
            refine ih _ _ (Or.inl ⟨rfl, by omega, by omega, h3, fun k a b => ?_⟩) (by omega)
            by_cases ek : k = v2
            · rw [ek, ← e]; exact h6
            · exact h4 k a (by omega)
      · exact ⟨iR_0, fun _ => Or.inr ⟨rfl, h1⟩, fun z => absurd rfl z⟩
    · rcases hv1 with ⟨rfl, h⟩ | ⟨rfl, h⟩
      · exact Or.inl ⟨rfl, by omega, by omega, h, fun k a b => by omega⟩
      · exact Or.inr ⟨rfl, fun q => h q.1⟩
  refine ⟨hi6, ⟨by omega, by omega⟩, by rw [hT]; exact ⟨by omega, by omega⟩, fun h => ?_, fun h => ?_⟩
  · rw [hT] at h
    exact loop 0 (Or.inr ⟨rfl, by omega⟩)
  · rw [hT] at h
    exact loop 1 (Or.inl ⟨rfl, by omega⟩)
theorem m_side {nn : Nat → Nat} {σ : kM} {T l s : Int} {mk : Nat → Int} {Pr : Int → Prop} (hL : LW (σ 27 20) (σ 34) (σ 35) (σ 36)) (hT0 : 0 ≤ T ∧ T ≤ 2000) (hl : 0 ≤ l ∧ l < σ 27 20) (hs : 0 ≤ s ∧ s < T) (hf : Fit T (σ 34) (σ 36) mk l.toNat s) (hB : BB T (σ 38) (σ 39) s) (k1 : bw (σ 38) (σ 39) s.toNat < vl (σ 34) (σ 35) (bw (σ 38) (σ 39)) l.toNat s → Pr 1) (k0 : vl (σ 34) (σ 35) (bw (σ 38) (σ 39)) l.toNat s = bw (σ 38) (σ 39) s.toNat → Pr 0) (km : vl (σ 34) (σ 35) (bw (σ 38) (σ 39)) l.toNat s < bw (σ 38) (σ 39) s.toNat → Pr (-1)) : wp_M_side nn σ l s Pr := by
  obtain ⟨l0, l6, lb, lw⟩ := id hL
  have hi6 : 0 ≤ l ∧ l < 6 ∧ l < 2147483648 := by omega
  have hw := lb l.toNat
  have hw1 := lw l.toNat (by omega)
  have hend := hf.1
  have be := hB (s + σ 34 l.toNat) (by omega) hend
  have bs := hB s (by omega) (by omega)
  have hie : 0 ≤ s + σ 34 l.toNat ∧ s + σ 34 l.toNat < 2001 ∧ s + σ 34 l.toNat < 2147483648 := by omega
  have his : 0 ≤ s ∧ s < 2001 ∧ s < 2147483648 := by omega
  unfold vl bw at k1 k0 km
  refine ⟨hi6, ⟨by omega, by omega⟩, hi6, hie, ?_⟩
  rintro v1 hv1
  refine ⟨hi6, hie, ?_⟩
  rintro v2 hv2
  generalize σ 38 (s + σ 34 l.toNat).toNat = A at *
  generalize σ 39 (s + σ 34 l.toNat).toNat = A' at *
  generalize hB0 : σ 38 s.toNat = B at *
  generalize hB1 : σ 39 s.toNat = B' at *
  generalize σ 35 l.toNat = vv at *
  have hl1 : lR v1 := ⟨by omega, by omega⟩
  have hl2 : lR B := ⟨by omega, by omega⟩
  refine ⟨his, ⟨hl1, hl2⟩, fun h => ⟨his, ⟨by omega, by omega⟩, ⟨by omega, by omega⟩, fun h2 => ?_, fun h2 => ⟨his, ⟨by omega, by omega⟩, ⟨by omega, by omega⟩, fun h3 => ?_, fun h3 => ?_⟩⟩, fun h => ⟨his, ⟨hl1, hl2⟩, fun h2 => ?_, fun h2 => ?_⟩⟩
  · by_cases y : B < v1
    · rw [if_pos y] at h; omega
    · rw [if_neg y] at h
      by_cases y2 : v1 = B
      · exact k0 (by omega)
      · rw [if_neg y2] at h; omega
  · by_cases y : B < v1
    · rw [if_pos y] at h; omega
    · rw [if_neg y] at h
      by_cases y2 : v1 = B
      · exact km (by omega)
      · rw [if_neg y2] at h; omega
  · by_cases y : B < v1
    · rw [if_pos y] at h; omega
    · rw [if_neg y] at h
      by_cases y2 : v1 = B
      · exact k1 (by omega)
      · rw [if_neg y2] at h; omega
  · by_cases y : B < v1
    · rw [if_pos y] at h2; omega
    · rw [if_neg y] at h
      by_cases y2 : v1 = B
      · rw [if_pos y2] at h; omega
      · exact km (by omega)
  · by_cases y : B < v1
    · exact k1 (by omega)
    · rw [if_neg y] at h2
      by_cases y2 : v1 = B
      · rw [if_pos y2] at h2; omega
      · rw [if_neg y2] at h2; omega
/-- the best of waste and the leaves below l, the reference's way -/
def YP (T : Int) (w v b mk V : Nat → Int) (s l X : Int) : Prop := V (s + 1).toNat - 1 ≤ X ∧ (∀ i : Nat, (i : Int) < l → Fit T w b mk i s → vl w v V i s ≤ X) ∧ (X = V (s + 1).toNat - 1 ∨ ∃ i : Nat, (i : Int) < l ∧ Fit T w b mk i s ∧ X = vl w v V i s)
theorem YP.skip {T : Int} {w v b mk V : Nat → Int} {s l X : Int} (h : YP T w v b mk V s l X) (h0 : 0 ≤ l) (hn : Fit T w b mk l.toNat s → vl w v V l.toNat s ≤ X) : YP T w v b mk V s (l + 1) X := by
  obtain ⟨h1, h2, h3⟩ := h
  refine ⟨h1, fun i hi hf => ?_, ?_⟩
  · by_cases e : (i : Int) < l
    · exact h2 i e hf
    · have ei : i = l.toNat := by omega
      rw [ei] at hf ⊢
      exact hn hf
  · rcases h3 with h3 | ⟨i, a, c, d⟩
    · exact Or.inl h3
    · exact Or.inr ⟨i, by omega, c, d⟩
theorem YP.take {T : Int} {w v b mk V : Nat → Int} {s l X : Int} (h : YP T w v b mk V s l X) (h0 : 0 ≤ l) (hf : Fit T w b mk l.toNat s) (hx : X < vl w v V l.toNat s) : YP T w v b mk V s (l + 1) (vl w v V l.toNat s) := by
  obtain ⟨h1, h2, h3⟩ := h
  refine ⟨by omega, fun i hi hf2 => ?_, Or.inr ⟨l.toNat, by omega, hf, rfl⟩⟩
  by_cases e : (i : Int) < l
  · have := h2 i e hf2
    omega
  · have ei : i = l.toNat := by omega
    rw [ei]
    exact Int.le_refl _
theorem YP.done {T L : Int} {w v b mk V V' : Nat → Int} {s X : Int} (hw : ∀ j : Nat, (j : Int) < L → 1 ≤ w j) (h : YP T w v b mk V s L X) (h0 : 0 ≤ s) (hV : V' s.toNat = X) (hE : ∀ j : Nat, j ≠ s.toNat → V' j = V j) : DP1 T L w v b mk V' s := by
  have ev : ∀ l : Nat, (l : Int) < L → vl w v V' l s = vl w v V l s := fun l hl => by
    have := hw l hl
    unfold vl
    rw [hE (s + w l).toNat (by omega)]
  have e1 : V' (s + 1).toNat = V (s + 1).toNat := hE _ (by omega)
  obtain ⟨h1, h2, h3⟩ := h
  refine ⟨by omega, fun l hl hf => ?_, ?_⟩
  · rw [ev l hl, hV]; exact h2 l hl hf
  · rcases h3 with h3 | ⟨i, a, c, d⟩
    · exact Or.inl (by omega)
    · exact Or.inr ⟨i, a, c, by rw [ev i a, hV]; exact d⟩
def FrW (σ s : kM) : Prop := ∀ c, c ≠ 38 → c ≠ 39 → s c = σ c
theorem m_dp {nn : Nat → Nat} {σ : kM} {T : Int} {mk : Nat → Int} {G : kM → Prop} (hL : LW (σ 27 20) (σ 34) (σ 35) (σ 36)) (hT : σ 27 22 = T) (hT0 : 0 ≤ T ∧ T ≤ 2000) (hm : ∀ j : Nat, (j : Int) ≤ 2000 → σ 37 j = mk j) (h38 : σ 38 T.toNat = 0) (h39 : σ 39 T.toNat = 0) (kk : ∀ s, FrW σ s → DPs T (σ 27 20) (σ 34) (σ 35) (σ 36) mk (bw (s 38) (s 39)) 0 → BB T (s 38) (s 39) 0 → G s) : ∀ v7 : Int, v7 = T - 1 → ∃ (Pe3 : Int → kM → Prop) (k3 : Nat), lp_M_clip_182 nn Pe3 k3 v7 σ ∧ ∀ (v9 : Int) (s11 : kM), Pe3 v9 s11 → G s11 := by
  obtain ⟨l0, l6, lb, lw⟩ := id hL
  have hw0 : ∀ j, 0 ≤ σ 34 j := fun j => (lb j).1
  intro v7 hv7
  have hLp := lp2 (lp_M_clip_182 nn (fun _ s => FrW σ s ∧ DPs T (σ 27 20) (σ 34) (σ 35) (σ 36) mk (bw (s 38) (s 39)) 0 ∧ BB T (s 38) (s 39) 0)) (fun v8 s => -1 ≤ v8 ∧ v8 ≤ T - 1 ∧ FrW σ s ∧ DPs T (σ 27 20) (σ 34) (σ 35) (σ 36) mk (bw (s 38) (s 39)) (v8 + 1) ∧ BB T (s 38) (s 39) (v8 + 1)) (fun v8 _ => (v8 + 1).toNat) ?_ v7 σ ⟨by omega, by omega, fun _ _ _ => rfl, ⟨by unfold bw; omega, fun s a b => by omega⟩, fun j a b => by rw [show j = T by omega]; omega⟩
  · obtain ⟨k3, h⟩ := hLp
    exact ⟨_, k3, h, fun v9 s11 q => kk s11 q.1 q.2.1 q.2.2⟩
  · rintro m v8 s10 ⟨g1, g2, hf, hD, hB⟩ ih
    refine ⟨⟨by omega, by omega⟩, fun h => ?_, fun h => ⟨⟨by omega, by omega, by omega⟩, ⟨by omega, by omega, by omega⟩, ?_⟩⟩
    · rw [show v8 + 1 = 0 by omega] at hD hB
      exact ⟨hf, hD, hB⟩
    · rintro s19 rfl
      refine ⟨⟨by omega, by omega, by omega⟩, ⟨by omega, by omega, by omega⟩, ?_⟩
      rintro s20 rfl
      have b1 := hB (v8 + 1) (by omega) (by omega)
      have hLp2 := lp2 (lp_M_clip_218 nn v8 (fun _ s => FrW σ s ∧ DPs T (σ 27 20) (σ 34) (σ 35) (σ 36) mk (bw (s 38) (s 39)) v8 ∧ BB T (s 38) (s 39) v8)) (fun l s => (0 ≤ l ∧ l ≤ σ 27 20) ∧ FrW σ s ∧ (∀ j, j ≠ v8.toNat → s 38 j = s10 38 j) ∧ (∀ j, j ≠ v8.toNat → s 39 j = s10 39 j) ∧ ((0 ≤ s 38 v8.toNat ∧ s 38 v8.toNat ≤ 1000000 * (T - v8)) ∧ (0 ≤ s 39 v8.toNat ∧ s 39 v8.toNat ≤ T - v8)) ∧ YP T (σ 34) (σ 35) (σ 36) mk (bw (s10 38) (s10 39)) v8 l (bw (s 38) (s 39) v8.toNat)) (fun l _ => (σ 27 20 - l).toNat) ?_ 0 (va_up (va_up s10 38 (va_up (s10 38) v8.toNat (s10 38 (v8 + 1).toNat))) 39 (va_up (s10 39) v8.toNat (s10 39 (v8 + 1).toNat + 1))) ⟨⟨by omega, by omega⟩, fun c c1 c2 => by rw [up_ne _ _ c2, up_ne _ _ c1]; exact hf c c1 c2, fun j hj => by rw [up_ne _ _ (show (38 : Nat) ≠ 39 by decide), up_same, up_ne _ _ hj], fun j hj => by rw [up_same, up_ne _ _ hj], ?_, ?_⟩
      · obtain ⟨k6, h6⟩ := hLp2
        refine ⟨_, k6, h6, ?_⟩
        rintro v19 s22 ⟨q1, q2, q3⟩ v20 rfl
        exact ih _ _ ⟨by omega, by omega, q1, by rw [show v8 + -1 + 1 = v8 by omega]; exact q2, by rw [show v8 + -1 + 1 = v8 by omega]; exact q3⟩ (by omega)
      · rintro m6 l s21 ⟨hl, hf21, e38, e39, hbd, hY⟩ ih6
        have e27 : s21 27 = σ 27 := hf21 27 (by decide) (by decide)
        have e34 : s21 34 = σ 34 := hf21 34 (by decide) (by decide)
        have e35 : s21 35 = σ 35 := hf21 35 (by decide) (by decide)
        have e36 : s21 36 = σ 36 := hf21 36 (by decide) (by decide)
        have e37 : s21 37 = σ 37 := hf21 37 (by decide) (by decide)
        have hBs : BB T (s21 38) (s21 39) v8 := fun j a c => by
          by_cases ej : j = v8
          · rw [ej]; exact hbd
          · rw [e38 j.toNat (by omega), e39 j.toNat (by omega)]; exact hB j (by omega) c
        refine ⟨⟨by omega, by omega⟩, by rw [e27]; exact ⟨by omega, by omega⟩, fun h3 => ?_, fun h3 => ?_⟩
        · rw [e27] at h3
          rw [show l = σ 27 20 by omega] at hY
          have hd1 := hY.done (V' := bw (s21 38) (s21 39)) lw (by omega) rfl (fun j hj => by unfold bw; rw [e38 j hj, e39 j hj])
          have hag : ∀ j : Int, v8 + 1 ≤ j → j ≤ T → bw (s10 38) (s10 39) j.toNat = bw (s21 38) (s21 39) j.toNat := fun j a c => by
            unfold bw
            rw [e38 j.toNat (by omega), e39 j.toNat (by omega)]
          refine ⟨hf21, ⟨?_, fun x a c => ?_⟩, hBs⟩
          · rw [← hag T (by omega) (by omega)]; exact hD.1
          · by_cases ex : x = v8
            · rw [ex]; exact hd1
            · exact (hD.2 x (by omega) c).cg hw0 (fun j a1 a2 => hag j (by omega) a2) c
        · rw [e27] at h3
          have hlL : 0 ≤ l ∧ l < σ 27 20 := by omega
          have hi6 : 0 ≤ l ∧ l < 6 ∧ l < 2147483648 := by omega
          have hLs : LW (s21 27 20) (s21 34) (s21 35) (s21 36) := by rw [e27, e34, e35, e36]; exact hL
          have evl : Fit T (σ 34) (σ 36) mk l.toNat v8 → vl (σ 34) (σ 35) (bw (s21 38) (s21 39)) l.toNat v8 = vl (σ 34) (σ 35) (bw (s10 38) (s10 39)) l.toNat v8 := fun _ => by
            have := lw l.toNat (by omega)
            unfold vl bw
            rw [e38 _ (by omega), e39 _ (by omega)]
          refine ⟨fun r => (r = 1 ∧ Fit T (σ 34) (σ 36) mk l.toNat v8) ∨ (r = 0 ∧ ¬ Fit T (σ 34) (σ 36) mk l.toNat v8), m_fits (σ := s21) (mk := mk) hLs (by rw [e27]; exact hT) hT0 (by rw [e37]; exact hm) (by rw [e27]; exact hlL) ⟨by omega, by omega⟩ (fun q => Or.inl ⟨rfl, by rw [e34, e36] at q; exact q⟩) (fun q => Or.inr ⟨rfl, by rw [e34, e36] at q; exact q⟩), ?_⟩
          rintro r5 (⟨rfl, hfit⟩ | ⟨rfl, hfit⟩)
          · refine ⟨⟨by decide, by decide⟩, fun z => absurd z (by decide), fun _ => ?_⟩
            have hw := lb l.toNat
            have hw1 := lw l.toNat (by omega)
            have hend := hfit.1
            refine ⟨fun r => (r = 1 ∧ bw (s21 38) (s21 39) v8.toNat < vl (σ 34) (σ 35) (bw (s21 38) (s21 39)) l.toNat v8) ∨ (r ≤ 0 ∧ -1 ≤ r ∧ vl (σ 34) (σ 35) (bw (s21 38) (s21 39)) l.toNat v8 ≤ bw (s21 38) (s21 39) v8.toNat), m_side (σ := s21) (T := T) (mk := mk) hLs hT0 (by rw [e27]; exact hlL) ⟨by omega, by omega⟩ (by rw [e34, e36]; exact hfit) hBs (fun q => Or.inl ⟨rfl, by rw [e34, e35] at q; exact q⟩) (fun q => Or.inr ⟨by omega, by omega, by rw [e34, e35] at q; omega⟩) (fun q => Or.inr ⟨by omega, by omega, by rw [e34, e35] at q; omega⟩), ?_⟩
            rintro r6 (⟨rfl, hgt⟩ | ⟨r6a, r6b, hle⟩)
            · refine ⟨⟨by decide, by decide⟩, fun z => absurd z (by decide), fun _ => ?_⟩
              have be := hB (v8 + σ 34 l.toNat) (by omega) hend
              have hie : 0 ≤ v8 + σ 34 l.toNat ∧ v8 + σ 34 l.toNat < 2001 ∧ v8 + σ 34 l.toNat < 2147483648 := by omega
              have his : 0 ≤ v8 ∧ v8 < 2001 ∧ v8 < 2147483648 := by omega
              refine ⟨hi6, by rw [e35]; exact ⟨by omega, by omega⟩, hi6, by rw [e34]; exact hie, his, ?_⟩
              rw [e34, e35, e38 (v8 + σ 34 l.toNat).toNat (by omega)]
              rintro s23 rfl
              refine ⟨hi6, ?_, his, ?_⟩
              · rw [up_ne _ _ (show (34 : Nat) ≠ 38 by decide), e34]; exact hie
              · rw [up_ne _ _ (show (34 : Nat) ≠ 38 by decide), e34, up_ne _ _ (show (39 : Nat) ≠ 38 by decide), e39 (v8 + σ 34 l.toNat).toNat (by omega)]
                rintro s24 rfl v23 rfl
                refine ih6 _ _ ⟨by omega, fun c c1 c2 => by rw [up_ne _ _ c2, up_ne _ _ c1]; exact hf21 c c1 c2, fun j hj => ?_, fun j hj => ?_, ?_, ?_⟩ (by omega)
                · rw [up_ne _ _ (show (38 : Nat) ≠ 39 by decide), up_same, up_ne _ _ hj]; exact e38 j hj
                · rw [up_same, up_ne _ _ hj]; exact e39 j hj
                · rw [up_ne _ _ (show (38 : Nat) ≠ 39 by decide), up_same, up_same, up_same, up_same]
                  omega
                · have hX : bw (va_up (va_up s21 38 (va_up (s21 38) v8.toNat (σ 35 l.toNat + s10 38 (v8 + σ 34 l.toNat).toNat))) 39 (va_up (s21 39) v8.toNat (s10 39 (v8 + σ 34 l.toNat).toNat)) 38) (va_up (va_up s21 38 (va_up (s21 38) v8.toNat (σ 35 l.toNat + s10 38 (v8 + σ 34 l.toNat).toNat))) 39 (va_up (s21 39) v8.toNat (s10 39 (v8 + σ 34 l.toNat).toNat)) 39) v8.toNat = vl (σ 34) (σ 35) (bw (s10 38) (s10 39)) l.toNat v8 := by
                    unfold bw vl
                    dsimp only
                    rw [up_ne _ _ (show (38 : Nat) ≠ 39 by decide), up_same, up_same, up_same, up_same]
                    omega
                  rw [hX]
                  rw [evl hfit] at hgt
                  exact hY.take hl.1 hfit hgt
            · refine ⟨⟨by omega, by omega⟩, fun _ => ?_, fun z => absurd r6a z⟩
              rintro v22 rfl
              refine ih6 _ _ ⟨by omega, hf21, e38, e39, hbd, hY.skip hl.1 (fun q => ?_)⟩ (by omega)
              rw [evl q] at hle
              exact hle
          · refine ⟨iR_0, fun _ => ?_, fun z => absurd rfl z⟩
            rintro v21 rfl
            exact ih6 _ _ ⟨by omega, hf21, e38, e39, hbd, hY.skip hl.1 (fun q => absurd q hfit)⟩ (by omega)
      · rw [up_ne _ _ (show (38 : Nat) ≠ 39 by decide), up_same, up_same, up_same, up_same]
        omega
      · have hX : bw (va_up (va_up s10 38 (va_up (s10 38) v8.toNat (s10 38 (v8 + 1).toNat))) 39 (va_up (s10 39) v8.toNat (s10 39 (v8 + 1).toNat + 1)) 38) (va_up (va_up s10 38 (va_up (s10 38) v8.toNat (s10 38 (v8 + 1).toNat))) 39 (va_up (s10 39) v8.toNat (s10 39 (v8 + 1).toNat + 1)) 39) v8.toNat = bw (s10 38) (s10 39) (v8 + 1).toNat - 1 := by
          unfold bw
          rw [up_ne _ _ (show (38 : Nat) ≠ 39 by decide), up_same, up_same, up_same, up_same]
          omega
        rw [hX]
        exact ⟨Int.le_refl _, fun i hi _ => by omega, Or.inl rfl⟩
