/-! read from the begin on -/
def mx (a b : Int) : Int := if b ≤ a then a else b
def InvL (T : Int) (w v c V : Nat → Int) (σ s : kM) (v1 v2 : Int) : Prop := (0 ≤ v1 ∧ v1 ≤ T) ∧ (0 ≤ v2 ∧ v2 ≤ T) ∧ ((∀ k, k ≠ 6 → k ≠ 22 → s k = σ k) ∧ s 6 6 = T) ∧ (0 ≤ s 6 7 ∧ s 6 7 ≤ v1) ∧ eN w c (s 22) (s 6 7).toNat = v2 ∧ (∀ k : Nat, (k : Int) < s 6 7 → Rk T w c (s 22) k) ∧ (∀ j : Int, v2 ≤ j → j < v1 → c j.toNat = -1) ∧ (0 ≤ s 6 9 ∧ s 6 9 ≤ v1) ∧ (0 ≤ s 6 8 ∧ s 6 8 ≤ 1000000 * s 6 7) ∧ s 6 8 * 2001 - s 6 9 + V (mx v1 v2).toNat = V 0
theorem c_list {nn : Nat → Nat} {σ : kM} {T : Int} {mk : Nat → Int} {Pr : kM → Prop} (hL : LW (σ 5 3) (σ 16) (σ 17) (σ 18)) (hT : σ 6 6 = T) (hT0 : 0 ≤ T ∧ T ≤ 2000) (hD : DPs T (σ 5 3) (σ 16) (σ 17) (σ 18) mk (σ 20) 0) (hC : ∀ x : Int, 0 ≤ x → x < T → ChP T (σ 5 3) (σ 16) (σ 17) (σ 18) mk (σ 20) x (σ 21 x.toNat)) (kk : ∀ s : kM, (∀ k, k ≠ 6 → k ≠ 22 → s k = σ k) → s 6 6 = T → RecC T (σ 16) (σ 21) (s 22) (s 6 7) → s 6 7 ≤ 2000 → (0 ≤ s 6 9 ∧ s 6 9 ≤ 2000) → (0 ≤ s 6 8 ∧ s 6 8 ≤ 2000000000) → s 6 8 * 2001 - s 6 9 = σ 20 0 → Pr s) : wp_C_listFromTheBegin nn σ Pr := by
  obtain ⟨l0, l6, lb, lw⟩ := id hL
  rintro s1 rfl s2 rfl s3 rfl
  have hLp := lp3 (lp_C_listFromTheBegin_19 nn (fun _ _ s => ((∀ k, k ≠ 6 → k ≠ 22 → s k = σ k) ∧ s 6 6 = T) ∧ RecC T (σ 16) (σ 21) (s 22) (s 6 7) ∧ s 6 7 ≤ 2000 ∧ (0 ≤ s 6 9 ∧ s 6 9 ≤ 2000) ∧ (0 ≤ s 6 8 ∧ s 6 8 ≤ 2000000000) ∧ s 6 8 * 2001 - s 6 9 = σ 20 0)) (fun v1 v2 s => InvL T (σ 16) (σ 17) (σ 21) (σ 20) σ s v1 v2) (fun v1 _ _ => (T - v1).toNat) ?_ 0 0 (va_up (va_up (va_up σ 6 (va_up (σ 6) 7 0)) 6 (va_up (va_up (σ 6) 7 0) 8 0)) 6 (va_up (va_up (va_up (σ 6) 7 0) 8 0) 9 0)) ⟨⟨by omega, by omega⟩, ⟨by omega, by omega⟩, ⟨fun k k1 k2 => ?_, hT⟩, ⟨Int.le_refl 0, Int.le_refl 0⟩, rfl, fun k hk => absurd hk (show ¬ (k : Int) < 0 by omega), fun j a b => by omega, ⟨Int.le_refl 0, Int.le_refl 0⟩, ⟨Int.le_refl 0, (show (0 : Int) ≤ 1000000 * 0 by omega)⟩, ?_⟩
  · obtain ⟨k1, h⟩ := hLp
    exact ⟨_, k1, h, fun v3 v4 s5 q => kk s5 q.1.1 q.1.2 q.2.1 q.2.2.1 q.2.2.2.1 q.2.2.2.2.1 q.2.2.2.2.2⟩
  · rintro m v1 v2 s ⟨a1, a2, ⟨hf, e66⟩, a3, a4, a5, a6, a7, a8, a9⟩ ih
    have e5 : s 5 = σ 5 := hf 5 (by decide) (by decide)
    have e16 : s 16 = σ 16 := hf 16 (by decide) (by decide)
    have e17 : s 17 = σ 17 := hf 17 (by decide) (by decide)
    have e21 : s 21 = σ 21 := hf 21 (by decide) (by decide)
    refine ⟨⟨by omega, by omega⟩, by rw [e66]; exact ⟨by omega, by omega⟩, fun h => ?_, fun h => ⟨⟨by omega, by omega⟩, ⟨by omega, by omega⟩, fun h2 => ?_, fun h2 => ?_⟩⟩
    · rw [e66] at h
      have ev : v1 = T := by omega
      have em : mx v1 v2 = T := by unfold mx; split <;> omega
      rw [em, hD.1] at a9
      refine ⟨⟨hf, e66⟩, ⟨a3.1, a5, fun j j1 j2 => ?_⟩, by omega, by omega, by omega, by omega⟩
      rw [a4] at j1
      exact a6 j j1 (by omega)
    · rw [e66] at h
      have hmx : mx v1 v2 = v1 := if_pos h2
      rw [hmx] at a9
      have hch := hC v1 a1.1 (by omega)
      have hdp := hD.2 v1 a1.1 (by omega)
      refine ⟨⟨by omega, by omega, by omega⟩, ?_⟩
      rw [e21]
      intro v5 hv5
      rw [← hv5] at hch
      have hr5 : -1 ≤ v5 ∧ v5 < 6 := by
        rcases hch with ⟨q1, -⟩ | ⟨q1, q2, -⟩ <;> omega
      refine ⟨⟨by omega, by omega⟩, fun q => ⟨⟨a3.1, by omega, by omega⟩, ?_⟩, fun q => ?_⟩
      · rcases hch with ⟨q1, -⟩ | ⟨q1, q2, q3, q4, q5⟩
        · exact absurd q1 q
        · have hi6 : 0 ≤ v5 ∧ v5 < 6 ∧ v5 < 2147483648 := by omega
          have hwv := lb v5.toNat
          have hw1 := lw v5.toNat (by omega)
          rintro t6 rfl t7 rfl
          refine ⟨fun r => r = σ 17 v5.toNat, ⟨hi6, by show s 17 v5.toNat = _; rw [e17]⟩, ?_⟩
          rintro r1 rfl t8 rfl
          refine ⟨fun r => r = σ 16 v5.toNat, ⟨hi6, by show s 16 v5.toNat = _; rw [e16]⟩, ?_⟩
          rintro r2 rfl v6 rfl v7 rfl
          refine ih _ _ _ ⟨by omega, ⟨by omega, q3.1⟩, ⟨fun k k1 k2 => ?_, e66⟩, ?_, ?_, ?_, fun j j1 j2 => by omega, ?_, ?_, ?_⟩ (by omega)
          · rw [up_ne _ _ k1, up_ne _ _ k1, up_ne _ _ k2]; exact hf k k1 k2
          · show 0 ≤ s 6 7 + 1 ∧ s 6 7 + 1 ≤ v1 + 1
            omega
          · show eN (σ 16) (σ 21) (va_up (s 22) (s 6 7).toNat v1) (s 6 7 + 1).toNat = v1 + σ 16 v5.toNat
            rw [show (s 6 7 + 1).toNat = (s 6 7).toNat + 1 by omega]
            show va_up (s 22) (s 6 7).toNat v1 (s 6 7).toNat + σ 16 (σ 21 (va_up (s 22) (s 6 7).toNat v1 (s 6 7).toNat).toNat).toNat = v1 + σ 16 v5.toNat
            rw [up_same, ← hv5]
          · show ∀ k : Nat, (k : Int) < s 6 7 + 1 → Rk T (σ 16) (σ 21) (va_up (s 22) (s 6 7).toNat v1) k
            intro k hk
            by_cases ek : k = (s 6 7).toNat
            · subst ek
              have ee : eN (σ 16) (σ 21) (va_up (s 22) (s 6 7).toNat v1) (s 6 7).toNat = v2 := by
                rw [eN_cg (f' := s 22) (fun j hj => up_ne _ _ (by omega))]; exact a4
              unfold Rk
              rw [ee, up_same]
              exact ⟨h2, a1.1, by omega, a6, by rw [← hv5]; exact q⟩
            · exact (a5 k (by omega)).cg (fun j hj => (up_ne _ _ (by omega)).symm)
          · show 0 ≤ s 6 9 ∧ s 6 9 ≤ v1 + 1
            omega
          · show 0 ≤ s 6 8 + σ 17 v5.toNat ∧ s 6 8 + σ 17 v5.toNat ≤ 1000000 * (s 6 7 + 1)
            omega
          · show (s 6 8 + σ 17 v5.toNat) * 2001 - s 6 9 + σ 20 (mx (v1 + 1) (v1 + σ 16 v5.toNat)).toNat = σ 20 0
            have em : mx (v1 + 1) (v1 + σ 16 v5.toNat) = v1 + σ 16 v5.toNat := by unfold mx; split <;> omega
            rw [em]
            unfold vl at q4
            omega
      · rintro t9 rfl v8 rfl
        have hV : σ 20 v1.toNat = σ 20 (v1 + 1).toNat - 1 := by
          rcases hch with ⟨-, q2⟩ | ⟨q1, -⟩
          · rcases hdp.2.2 with z | ⟨l, z1, z2, z3⟩
            · exact z
            · exact absurd z3.symm (q2 l z1 z2)
          · omega
        refine ih _ _ _ ⟨by omega, a2, ⟨fun k k1 k2 => ?_, e66⟩, ?_, a4, a5, fun j j1 j2 => ?_, ?_, a8, ?_⟩ (by omega)
        · rw [up_ne _ _ k1]; exact hf k k1 k2
        · show 0 ≤ s 6 7 ∧ s 6 7 ≤ v1 + 1
          omega
        · by_cases ej : j = v1
          · rw [ej, ← hv5]; exact q
          · exact a6 j j1 (by omega)
        · show 0 ≤ s 6 9 + 1 ∧ s 6 9 + 1 ≤ v1 + 1
          omega
        · show s 6 8 * 2001 - (s 6 9 + 1) + σ 20 (mx (v1 + 1) v2).toNat = σ 20 0
          have em : mx (v1 + 1) v2 = v1 + 1 := if_pos (by omega)
          rw [em]
          omega
    · rw [e66] at h
      rintro v9 rfl
      have em : mx (v1 + 1) v2 = mx v1 v2 := by unfold mx; rw [if_neg h2]; split <;> omega
      exact ih _ _ _ ⟨by omega, a2, ⟨hf, e66⟩, by omega, a4, a5, fun j j1 j2 => a6 j j1 (by omega), by omega, a8, by rw [em]; exact a9⟩ (by omega)
  · rw [up_ne _ _ k1, up_ne _ _ k1, up_ne _ _ k1]
  · show (0 : Int) * 2001 - 0 + σ 20 (mx 0 0).toNat = σ 20 0
    have em : mx 0 0 = 0 := rfl
    rw [em]
    show (0 : Int) * 2001 - 0 + σ 20 0 = σ 20 0
    omega
def stp (len st : Int) : Int := if len / st < 2000 then len / st else 2000
/-- what the class has behind a clip -/
def ClC (σ s : kM) (st : Int) : Prop := (∀ k, k ≠ 6 → k ≠ 19 → k ≠ 20 → k ≠ 21 → k ≠ 22 → k ≠ 23 → s k = σ k) ∧ s 6 5 = 1 ∧ s 6 6 = stp (lenB (σ 3 1) (σ 3 2) (σ 3 3)) st ∧ DPs (s 6 6) (σ 5 3) (σ 16) (σ 17) (σ 18) (mkA (plF (σ 3 1) (σ 3 2) (σ 3 3) (σ 13) (σ 14)) (σ 15) st (σ 4 3).toNat) (s 20) 0 ∧ (∀ x : Int, 0 ≤ x → x < s 6 6 → ChP (s 6 6) (σ 5 3) (σ 16) (σ 17) (σ 18) (mkA (plF (σ 3 1) (σ 3 2) (σ 3 3) (σ 13) (σ 14)) (σ 15) st (σ 4 3).toNat) (s 20) x (s 21 x.toNat)) ∧ RecC (s 6 6) (σ 16) (s 21) (s 22) (s 6 7) ∧ s 6 7 ≤ 2000 ∧ (0 ≤ s 6 9 ∧ s 6 9 ≤ 2000) ∧ (0 ≤ s 6 8 ∧ s 6 8 ≤ 2000000000) ∧ s 6 8 * 2001 - s 6 9 = s 20 0
theorem stp_in {len st : Int} (h0 : 0 ≤ len ∧ len ≤ 20000000) (hs : 1 ≤ st) : (0 ≤ stp len st ∧ stp len st ≤ 2000) ∧ iR (len / st) := by
  have d0 : 0 ≤ len / st := Int.ediv_nonneg h0.1 (by omega)
  have d1 : len / st ≤ len := Int.ediv_le_self _ h0.1
  refine ⟨?_, by omega, by omega⟩
  unfold stp
  split <;> omega
theorem c_cut {nn : Nat → Nat} {σ : kM} {st : Int} {Pr : kM → Prop} (hb : Rb (σ 3 1) (σ 3 2) (σ 3 3)) (hc : 0 ≤ σ 4 3 ∧ σ 4 3 ≤ 16) (hF : ∀ j, 0 ≤ σ 13 j ∧ σ 13 j ≤ 359 ∧ 0 ≤ σ 14 j ∧ σ 14 j ≤ 1000) (hL : LW (σ 5 3) (σ 16) (σ 17) (σ 18)) (hst : 1 ≤ st ∧ st ≤ 1000) (kk : ∀ s, ClC σ s st → Pr s) : wp_C_cut nn σ st Pr := by
  obtain ⟨-, -, n1, n2, -⟩ := len_in hb hb.2.2.2.2.1 (Int.le_refl _)
  obtain ⟨t1, t2⟩ := stp_in ⟨n1, n2⟩ hst.1
  refine ⟨⟨by omega, by omega⟩, ?_⟩
  have e : (if 1 < st then st else 1) = st := by split <;> omega
  rw [e]
  rintro v1 rfl
  refine ⟨fun r => r = lenB (σ 3 1) (σ 3 2) (σ 3 3), ⟨fun r => r = lenB (σ 3 1) (σ 3 2) (σ 3 3), p_len hb hb.2.2.2.2.1 (Int.le_refl _) rfl, fun r q => q⟩, ?_⟩
  rintro r1 rfl
  refine ⟨⟨⟨by omega, by omega⟩, ⟨by omega, by omega⟩, n1, by omega⟩, t2, ?_⟩
  have es : (if lenB (σ 3 1) (σ 3 2) (σ 3 3) / v1 < 2000 then lenB (σ 3 1) (σ 3 2) (σ 3 3) / v1 else 2000) = stp (lenB (σ 3 1) (σ 3 2) (σ 3 3)) v1 := rfl
  rw [es]
  generalize hT : stp (lenB (σ 3 1) (σ 3 2) (σ 3 3)) v1 = T at *
  rintro s1 rfl
  refine ⟨fun s => (∀ c, c ≠ 19 → s c = va_up σ 6 (va_up (σ 6) 6 T) c) ∧ ∀ j : Nat, (j : Int) < T → s 19 j = mkA (plF (σ 3 1) (σ 3 2) (σ 3 3) (σ 13) (σ 14)) (σ 15) v1 (σ 4 3).toNat j, c_marks (σ := va_up σ 6 (va_up (σ 6) 6 T)) (T := T) hb hc hF rfl t1 hst (fun s q1 q2 => ⟨q1, q2⟩), ?_⟩
  rintro s2 ⟨f2, m2⟩
  have e3 : s2 3 = σ 3 := f2 3 (by decide)
  have e5 : s2 5 = σ 5 := f2 5 (by decide)
  have e16 : s2 16 = σ 16 := f2 16 (by decide)
  have e17 : s2 17 = σ 17 := f2 17 (by decide)
  have e18 : s2 18 = σ 18 := f2 18 (by decide)
  have e6 : s2 6 6 = T := by rw [f2 6 (by decide)]; rfl
  refine ⟨fun s => FrD s2 s ∧ DPs T (σ 5 3) (σ 16) (σ 17) (σ 18) (mkA (plF (σ 3 1) (σ 3 2) (σ 3 3) (σ 13) (σ 14)) (σ 15) v1 (σ 4 3).toNat) (s 20) 0 ∧ ∀ x : Int, 0 ≤ x → x < T → ChP T (σ 5 3) (σ 16) (σ 17) (σ 18) (mkA (plF (σ 3 1) (σ 3 2) (σ 3 3) (σ 13) (σ 14)) (σ 15) v1 (σ 4 3).toNat) (s 20) x (s 21 x.toNat), c_end (σ := s2) (by rw [e5, e16, e17, e18]; exact hL) e6 t1 m2 (fun s q1 q2 q3 => by rw [e5, e16, e17, e18] at q2 q3; exact ⟨q1, q2, q3⟩), ?_⟩
  rintro s3 ⟨f3, d3, c3⟩
  have g5 : s3 5 = σ 5 := (f3 5 (by decide) (by decide) (by decide)).trans e5
  have g16 : s3 16 = σ 16 := (f3 16 (by decide) (by decide) (by decide)).trans e16
  have g17 : s3 17 = σ 17 := (f3 17 (by decide) (by decide) (by decide)).trans e17
  have g18 : s3 18 = σ 18 := (f3 18 (by decide) (by decide) (by decide)).trans e18
  have g6 : s3 6 6 = T := by rw [f3 6 (by decide) (by decide) (by decide)]; exact e6
  refine ⟨fun s => (∀ k, k ≠ 6 → k ≠ 22 → s k = s3 k) ∧ s 6 6 = T ∧ RecC T (σ 16) (s3 21) (s 22) (s 6 7) ∧ s 6 7 ≤ 2000 ∧ (0 ≤ s 6 9 ∧ s 6 9 ≤ 2000) ∧ (0 ≤ s 6 8 ∧ s 6 8 ≤ 2000000000) ∧ s 6 8 * 2001 - s 6 9 = s3 20 0, c_list (σ := s3) (by rw [g5, g16, g17, g18]; exact hL) g6 t1 (by rw [g5, g16, g17, g18]; exact d3) (by rw [g5, g16, g17, g18]; exact c3) (fun s q1 q2 q3 q4 q5 q6 q7 => by rw [g16] at q3; exact ⟨q1, q2, q3, q4, q5, q6, q7⟩), ?_⟩
  rintro s4 ⟨f4, h66, hrec, h67, h69, h68, hval⟩ s5 rfl
  have k20 : s4 20 = s3 20 := f4 20 (by decide) (by decide)
  have k21 : s4 21 = s3 21 := f4 21 (by decide) (by decide)
  refine kk _ ⟨fun k k1 k2 k3 k4 k5 k6 => ?_, rfl, ?_, ?_, ?_, ?_, h67, h69, h68, ?_⟩
  · rw [up_ne _ _ k1, f4 k k1 k5, f3 k k3 k4 k6, f2 k k2, up_ne _ _ k1]
  · show s4 6 6 = _
    rw [h66, hT]
  · show DPs (s4 6 6) _ _ _ _ _ (s4 20) 0
    rw [h66, k20]; exact d3
  · show ∀ x : Int, 0 ≤ x → x < s4 6 6 → ChP (s4 6 6) _ _ _ _ _ (s4 20) x (s4 21 x.toNat)
    rw [h66, k20, k21]; exact c3
  · show RecC (s4 6 6) (σ 16) (s4 21) (s4 22) (s4 6 7)
    rw [h66, k21]; exact hrec
  · show s4 6 8 * 2001 - s4 6 9 = s4 20 0
    rw [k20]; exact hval
