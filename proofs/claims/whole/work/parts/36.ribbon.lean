/-! before, unrolled -/
def Rb (r t u : Int) : Prop := 0 ≤ r ∧ r ≤ 1500 ∧ 1 ≤ t ∧ t ≤ 1000 ∧ 0 ≤ u ∧ u * t ≤ r
def lenS (r t k : Int) : Int := k * r - t * (k * (k - 1) / 2)
def lenB (r t k : Int) : Int := lenS r t k * 710 / 113
theorem lenS_step (r t j : Int) : lenS r t (j + 1) = lenS r t j + r - j * t := by
  have h1 : (j + 1) * (j + 1 - 1) = j * (j - 1) + j * 2 := by
    simp only [Int.add_mul, Int.mul_sub, Int.mul_add, Int.sub_mul, Int.mul_one, Int.one_mul]
    omega
  have h2 : (j + 1) * (j + 1 - 1) / 2 = j * (j - 1) / 2 + j := by
    rw [h1, Int.add_mul_ediv_right _ _ (by decide)]
  unfold lenS
  rw [h2, Int.mul_add, Int.add_mul, Int.mul_comm t j]
  omega
theorem len_in {r t u k : Int} (h : Rb r t u) (h0 : 0 ≤ k) (h1 : k ≤ u) : (iR (k * (k - 1)) ∧ 0 ≤ k * (k - 1)) ∧ (iR (lenS r t k * 710) ∧ 0 ≤ lenS r t k * 710) ∧ 0 ≤ lenB r t k ∧ lenB r t k ≤ 20000000 ∧ k ≤ 1500 := by
  obtain ⟨a1, a2, a3, a4, a5, a6⟩ := h
  have b1 : k * t ≤ u * t := Int.mul_le_mul_of_nonneg_right h1 (by omega)
  have b2 : k * 1 ≤ k * t := Int.mul_le_mul_of_nonneg_left a3 h0
  have hk : k ≤ 1500 := by omega
  have c1 : 0 ≤ k * r := Int.mul_nonneg h0 a1
  have c2 : k * r ≤ 1500 * 1500 := Int.mul_le_mul hk a2 a1 (by decide)
  have d1 : 0 ≤ k * (k - 1) := by
    by_cases hz : k = 0
    · subst hz; decide
    · exact Int.mul_nonneg h0 (by omega)
  have d2 : k * (k - 1) ≤ 1500 * 1500 := Int.mul_le_mul hk (by omega) |> fun f => by
    by_cases hz : k = 0
    · subst hz; decide
    · exact Int.mul_le_mul hk (by omega) (by omega) (by decide)
  have e1 : 0 ≤ k * (k - 1) / 2 := Int.ediv_nonneg d1 (by decide)
  have e2 : k * (k - 1) / 2 * 2 ≤ k * (k - 1) := Int.ediv_mul_le _ (by decide)
  have f1 : 0 ≤ t * (k * (k - 1) / 2) := Int.mul_nonneg (by omega) e1
  have f2 : t * (k * (k - 1) / 2) ≤ k * r := by
    have g1 : t * (k * (k - 1) / 2 * 2) ≤ t * (k * (k - 1)) := Int.mul_le_mul_of_nonneg_left e2 (by omega)
    have g2 : t * (k * (k - 1)) ≤ k * r := by
      by_cases hz : k = 0
      · subst hz; simp
      · have : (k * t) * (k - 1) ≤ r * (k - 1) := Int.mul_le_mul_of_nonneg_right (by omega) (by omega)
        have q1 : t * (k * (k - 1)) = (k * t) * (k - 1) := by rw [← Int.mul_assoc, Int.mul_comm t k]
        have q2 : r * (k - 1) = k * r - r := by rw [Int.mul_sub, Int.mul_one, Int.mul_comm]
        omega
    have g3 : t * (k * (k - 1) / 2 * 2) = t * (k * (k - 1) / 2) * 2 := by rw [Int.mul_assoc]
    omega
  have hS : 0 ≤ lenS r t k ∧ lenS r t k ≤ 2250000 := by unfold lenS; omega
  refine ⟨⟨⟨by omega, by omega⟩, d1⟩, ⟨⟨by omega, by omega⟩, by omega⟩, ?_, ?_, hk⟩
  · unfold lenB; omega
  · unfold lenB; omega
theorem p_len {nn : Nat → Nat} {σ : kM} {k : Int} {Pr : Int → Prop} (h : Rb (σ 3 1) (σ 3 2) (σ 3 3)) (h0 : 0 ≤ k) (h1 : k ≤ σ 3 3) (kk : Pr (lenB (σ 3 1) (σ 3 2) k)) : wp_R_lengthBefore nn σ k Pr := by
  obtain ⟨a, b, c⟩ := len_in h h0 h1
  refine ⟨a, ?_⟩
  rintro v1 rfl
  exact ⟨fun r => r = lenB (σ 3 1) (σ 3 2) k, ⟨b, rfl⟩, fun r e => e ▸ kk⟩
theorem m_len {nn : Nat → Nat} {σ : kM} {k : Int} {Pr : Int → Prop} (h : Rb (σ 27 12) (σ 27 10) (σ 27 11)) (h0 : 0 ≤ k) (h1 : k ≤ σ 27 11) (kk : Pr (lenB (σ 27 12) (σ 27 10) k)) : wp_M_beforeTurn nn σ k Pr := by
  obtain ⟨a, b, c⟩ := len_in h h0 h1
  have hL := lp2 (lp_M_beforeTurn_4 nn k σ (fun _ v => v = lenS (σ 27 12) (σ 27 10) k)) (fun v1 v2 => 0 ≤ v1 ∧ v1 ≤ k ∧ v2 = lenS (σ 27 12) (σ 27 10) v1) (fun v1 _ => (k - v1).toNat) ?_ 0 0 ⟨by omega, h0, by unfold lenS; simp⟩
  · obtain ⟨k1, hk⟩ := hL
    refine ⟨_, k1, hk, ?_⟩
    rintro v3 v4 rfl
    exact ⟨b, kk⟩
  · rintro n v1 v2 ⟨g1, g2, rfl⟩ ih
    refine ⟨⟨by omega, by omega⟩, ⟨by omega, by omega⟩, fun h => by rw [show v1 = k by omega], fun h => ?_⟩
    rintro v5 rfl v6 rfl
    exact ih _ _ ⟨by omega, by omega, (lenS_step _ _ _).symm⟩ (by omega)
/-- where a fault lies -/
def plc (r t u a f : Int) : Int := if r < f then -1 else if r - u * t < f then lenB r t ((r - f) / t) + (r - (r - f) / t * t) * 710 / 113 * a / 360 else -1
theorem plc_in {r t u a f : Int} (h : Rb r t u) (ha : 0 ≤ a ∧ a ≤ 359) (hf : 0 ≤ f) (h1 : ¬ r < f) (h2 : r - u * t < f) : (iR (r - f) ∧ iR t ∧ 0 ≤ r - f ∧ 0 < t) ∧ (0 ≤ (r - f) / t ∧ (r - f) / t ≤ u) ∧ (iR ((r - (r - f) / t * t) * 710) ∧ 0 ≤ (r - (r - f) / t * t) * 710) ∧ (iR ((r - (r - f) / t * t) * 710 / 113 * a) ∧ 0 ≤ (r - (r - f) / t * t) * 710 / 113 * a) ∧ 0 ≤ lenB r t ((r - f) / t) + (r - (r - f) / t * t) * 710 / 113 * a / 360 ∧ lenB r t ((r - f) / t) + (r - (r - f) / t * t) * 710 / 113 * a / 360 ≤ 100000000 := by
  have h' := h
  obtain ⟨a1, a2, a3, a4, a5, a6⟩ := h
  have b1 : 0 ≤ (r - f) / t := Int.ediv_nonneg (by omega) (by omega)
  have b2 : (r - f) / t < u := Int.ediv_lt_of_lt_mul (by omega) (by omega)
  have b3 : (r - f) / t * t ≤ r - f := Int.ediv_mul_le _ (by omega)
  have b4 : 0 ≤ (r - f) / t * t := Int.mul_nonneg b1 (by omega)
  obtain ⟨-, -, c1, c2, -⟩ := len_in h' b1 (by omega)
  generalize (r - f) / t = q at *
  generalize q * t = w at *
  have d1 : 0 ≤ (r - w) * 710 / 113 ∧ (r - w) * 710 / 113 ≤ 10000 := by omega
  generalize (r - w) * 710 / 113 = z at *
  have e1 : 0 ≤ z * a := Int.mul_nonneg d1.1 ha.1
  have e2 : z * a ≤ 10000 * 359 := Int.mul_le_mul d1.2 ha.2 ha.1 (by decide)
  refine ⟨⟨⟨by omega, by omega⟩, ⟨by omega, by omega⟩, by omega, by omega⟩, ⟨b1, by omega⟩, ⟨⟨by omega, by omega⟩, by omega⟩, ⟨⟨by omega, by omega⟩, e1⟩, by omega, by omega⟩
theorem plc_ge {r t u a f : Int} (h : Rb r t u) (ha : 0 ≤ a ∧ a ≤ 359) (hf : 0 ≤ f) : -1 ≤ plc r t u a f ∧ plc r t u a f ≤ 100000000 := by
  unfold plc
  split
  · omega
  · split
    · rename_i h1 h2
      obtain ⟨-, -, -, -, e1, e2⟩ := plc_in h ha hf h1 h2
      omega
    · omega
theorem p_place {nn : Nat → Nat} {σ : kM} {f : Int} {Pr : Int → Prop} (h : Rb (σ 3 1) (σ 3 2) (σ 3 3)) (hF : ∀ j, 0 ≤ σ 13 j ∧ σ 13 j ≤ 359 ∧ 0 ≤ σ 14 j ∧ σ 14 j ≤ 1000) (h0 : 0 ≤ f ∧ f < 16) (kk : Pr (plc (σ 3 1) (σ 3 2) (σ 3 3) (σ 13 f.toNat) (σ 14 f.toNat))) : wp_F_placeIn nn σ f Pr := by
  have hj := hF f.toNat
  have h' := h
  obtain ⟨a1, a2, a3, a4, a5, a6⟩ := h
  have hu : 0 ≤ σ 3 3 * σ 3 2 := Int.mul_nonneg a5 (by omega)
  unfold plc at kk
  refine ⟨⟨h0.1, h0.2, by omega⟩, ⟨h0.1, h0.2, by omega⟩, Pr, ⟨⟨by omega, by omega⟩, ⟨by omega, by omega⟩, fun q => ?_, fun q => ⟨⟨by omega, by omega⟩, ⟨by omega, by omega⟩, fun q2 => ?_, fun q2 => ?_⟩⟩, fun r hr => hr⟩
  · rw [if_pos q] at kk; exact kk
  · rw [if_neg q, if_pos q2] at kk
    obtain ⟨e1, e2, e3, e4, -, -⟩ := plc_in h' ⟨hj.1, hj.2.1⟩ hj.2.2.1 q q2
    refine ⟨e1, ?_⟩
    rintro v1 rfl
    refine ⟨fun r => r = _, p_len (Pr := fun r => r = _) h' e2.1 e2.2 rfl, ?_⟩
    rintro r1 rfl
    refine ⟨fun r => r = _, ⟨e3, rfl⟩, ?_⟩
    rintro r2 rfl
    exact ⟨e4, kk⟩
  · rw [if_neg q, if_neg q2] at kk; exact kk
theorem m_place {nn : Nat → Nat} {σ : kM} {f : Int} {Pr : Int → Prop} (h : Rb (σ 27 12) (σ 27 10) (σ 27 11)) (hF : ∀ j, 0 ≤ σ 31 j ∧ σ 31 j ≤ 359 ∧ 0 ≤ σ 32 j ∧ σ 32 j ≤ 1000) (h0 : 0 ≤ f ∧ f < 16) (kk : Pr (plc (σ 27 12) (σ 27 10) (σ 27 11) (σ 31 f.toNat) (σ 32 f.toNat))) : wp_M_placeOf nn σ f Pr := by
  have hj := hF f.toNat
  have h' := h
  obtain ⟨a1, a2, a3, a4, a5, a6⟩ := h
  have hu : 0 ≤ σ 27 11 * σ 27 10 := Int.mul_nonneg a5 (by omega)
  have hi : 0 ≤ f ∧ f < 16 ∧ f < 2147483648 := by omega
  unfold plc at kk
  refine ⟨hi, ⟨by omega, by omega⟩, ⟨by omega, by omega⟩, fun q => ?_, fun q => ⟨hi, ⟨by omega, by omega⟩, ⟨by omega, by omega⟩, fun q2 => ?_, fun q2 => ?_⟩⟩
  · rw [if_pos q] at kk; exact kk
  · rw [if_neg q, if_pos q2] at kk
    obtain ⟨e1, e2, e3, e4, -, -⟩ := plc_in h' ⟨hj.1, hj.2.1⟩ hj.2.2.1 q q2
    refine ⟨hi, e1, ?_⟩
    rintro v1 rfl
    refine ⟨fun r => r = _, m_len (Pr := fun r => r = _) h' e2.1 e2.2 rfl, ?_⟩
    rintro r1 rfl
    exact ⟨e3, hi, e4, kk⟩
  · rw [if_neg q, if_neg q2] at kk; exact kk
theorem m_before {nn : Nat → Nat} {σ : kM} {p0 : Int} {Pr : Int → kM → Prop} (h9 : σ 27 9 = 0 ∨ σ 27 9 = 1) (hb : σ 27 9 = 1 → Rb (σ 27 12) (σ 27 10) (σ 27 11)) (hp0 : iR p0) (k0 : σ 27 9 = 1 → (0 ≤ p0 ∧ p0 ≤ σ 27 11) → Pr (lenB (σ 27 12) (σ 27 10) p0) (va_up σ 27 (va_up (σ 27) 0 0))) (k1 : σ 27 9 = 0 → Pr 0 (va_up σ 27 (va_up (σ 27) 0 1))) (k2 : σ 27 9 = 1 → ¬ (0 ≤ p0 ∧ p0 ≤ σ 27 11) → Pr 0 (va_up σ 27 (va_up (σ 27) 0 2))) : wp_M_before nn σ p0 Pr := by
  have hn : ∀ v : Int, v = 1 ∨ v = 2 → Pr 0 (va_up σ 27 (va_up (σ 27) 0 v)) → jn_M_before_29 nn p0 σ Pr v := by
    rintro v hv k s1 rfl
    exact ⟨(⟨by omega, by omega⟩ : iR v), fun (h : v ≤ 0) => by omega, fun _ => k⟩
  refine ⟨⟨by omega, by omega⟩, fun h => ?_, fun h => hn 1 (Or.inl rfl) (k1 h)⟩
  have h1 : σ 27 9 = 1 := by omega
  have hR := hb h1
  have hu := len_in hR hR.2.2.2.2.1 (Int.le_refl _)
  refine ex_mA hp0 iR_0 ⟨by have := hR.2.2.2.2.1; omega, by omega⟩ (fun a b => ?_) (fun h => hn 2 (Or.inr rfl) (k2 h1 h))
  rintro s1 rfl
  refine ⟨iR_0, fun _ => ⟨fun r => r = _, m_len (σ := va_up σ 27 (va_up (σ 27) 0 0)) (Pr := fun r => r = _) hR a b rfl, ?_⟩, fun h => absurd (Int.le_refl 0) h⟩
  rintro r rfl
  exact k0 h1 ⟨a, b⟩
theorem r_before {n d N : Int} {nn : Nat → Nat} {xs : Nat → Int32} (i : Int) (σ : kM) (h : Rel n d N σ) : wl_6 nn xs i σ (Rel n d N) := by
  have hR := h
  obtain ⟨hG, hC, hQ, hA, hM, ⟨hB1, hB2, hB3⟩, hF, hL, hP, hK⟩ := h
  have hp0 := xI_in xs (i + 1)
  unfold wl_6
  generalize xI xs (i + 1) = p0 at hp0 ⊢
  by_cases hd : σ 3 0 = 1
  · obtain ⟨g1, g2, g3, g4⟩ := hB3 hd
    have hb : Rb (σ 3 1) (σ 3 2) (σ 3 3) := g4
    have hbm : Rb (σ 27 12) (σ 27 10) (σ 27 11) := by rw [g1, g2, g3]; exact hb
    have hu := len_in hb hb.2.2.2.2.1 (Int.le_refl _)
    have hui : iR (σ 3 3) := ⟨by have := hb.2.2.2.2.1; omega, by omega⟩
    by_cases hw : 0 ≤ p0 ∧ p0 ≤ σ 3 3
    · obtain ⟨-, -, v1, v2, -⟩ := len_in hb hw.1 hw.2
      have hv : iR (lenB (σ 3 1) (σ 3 2) p0) := ⟨by omega, by omega⟩
      refine ⟨fun r s => r = 0 ∧ s = va_up σ 26 (va_up (σ 26) 0 (lenB (σ 3 1) (σ 3 2) p0)), Or.inl ⟨fun r s => r = lenB (σ 3 1) (σ 3 2) p0 ∧ s = σ, ex_pl hB2 (fun _ => ex_wB hp0 iR_0 hui (fun _ _ => ⟨fun r => r = _, p_len (Pr := fun r => r = _) hb hw.1 hw.2 rfl, fun r e => ⟨e, rfl⟩⟩) (fun h => absurd hw h)) (fun h => by omega), ?_⟩, ?_⟩
      · rintro r s ⟨rfl, rfl⟩
        exact ⟨hv, fun s2 hs => ⟨rfl, hs⟩⟩
      · rintro r1 s1 ⟨rfl, rfl⟩
        refine ⟨fun r s => r = lenB (σ 3 1) (σ 3 2) p0 ∧ s = va_up (va_up σ 26 (va_up (σ 26) 0 (lenB (σ 3 1) (σ 3 2) p0))) 27 (va_up (σ 27) 0 0), m_before (σ := va_up σ 26 (va_up (σ 26) 0 (lenB (σ 3 1) (σ 3 2) p0))) (by show σ 27 9 = 0 ∨ σ 27 9 = 1; omega) (fun _ => hbm) hp0 (fun _ _ => ⟨by show lenB (σ 27 12) (σ 27 10) p0 = _; rw [g1, g2], rfl⟩) (fun hn => absurd (show σ 27 9 = 0 from hn) (by omega)) (fun _ hn => absurd (show 0 ≤ p0 ∧ p0 ≤ σ 27 11 by rw [g3]; exact hw) hn), ?_⟩
        rintro r2 s2 ⟨rfl, rfl⟩
        exact cmpN rfl hv rfl hR.out.thr
    · refine ⟨fun r s => r = 2 ∧ s = σ, Or.inr ⟨fun k => k = 0, ex_pl hB2 (fun _ => ex_wB hp0 iR_0 hui (fun a b => absurd ⟨a, b⟩ hw) (fun _ => rfl)) (fun h => by omega), fun k hk => Or.inr ⟨hk, rfl, rfl⟩⟩, ?_⟩
      rintro r1 s1 ⟨rfl, rfl⟩
      refine ⟨fun r s => s = va_up s1 27 (va_up (s1 27) 0 2), m_before (by omega) (fun _ => hbm) hp0 (fun _ hn => absurd (g3 ▸ hn) hw) (fun hn => by omega) (fun _ _ => rfl), ?_⟩
      rintro r2 s2 rfl
      exact cmpT rfl (Or.inr rfl) hR.thr
  · refine ⟨fun r s => r = 1 ∧ s = σ, Or.inr ⟨fun k => k = 2, ex_pl hB2 (fun h => absurd h hd) (fun h => rfl), fun k hk => Or.inl ⟨hk, rfl, rfl⟩⟩, ?_⟩
    rintro r1 s1 ⟨rfl, rfl⟩
    refine ⟨fun r s => s = va_up s1 27 (va_up (s1 27) 0 1), m_before (by omega) (fun h => by omega) hp0 (fun h => by omega) (fun _ => rfl) (fun h => by omega), ?_⟩
    rintro r2 s2 rfl
    exact cmpT rfl (Or.inl rfl) hR.thr
theorem ex_fhB {nn : Nat → Nat} {σ : kM} {a : Int} {A B : Prop} (ha : iR a) (hc : iR (σ 4 3 - 1)) (h1 : 0 ≤ a → a ≤ σ 4 3 - 1 → B) (h0 : ¬ (0 ≤ a ∧ a ≤ σ 4 3 - 1) → A) : ∃ P : Int → Prop, wp_F_has nn σ a P ∧ ∀ r : Int, P r → iR r ∧ ((¬ r = 0 → B) ∧ (r = 0 → A)) := by
  refine ⟨fun r => (r = 0 ∧ A) ∨ (r = 1 ∧ B), ⟨fun r => (r = 0 ∧ A) ∨ (r = 1 ∧ B), ⟨ha, iR_0, fun h => Or.inl ⟨rfl, h0 (by omega)⟩, fun h => ⟨ha, hc, fun h2 => Or.inl ⟨rfl, h0 (by omega)⟩, fun h2 => Or.inr ⟨rfl, h1 (by omega) (by omega)⟩⟩⟩, ?_⟩, ?_⟩
  · rintro r (⟨rfl, h⟩ | ⟨rfl, h⟩)
    · exact ⟨Or.inl rfl, Or.inl ⟨rfl, h⟩⟩
    · exact ⟨Or.inr rfl, Or.inr ⟨rfl, h⟩⟩
  · rintro r (⟨rfl, h⟩ | ⟨rfl, h⟩)
    · exact ⟨⟨by decide, by decide⟩, fun h => absurd rfl h, fun _ => h⟩
    · exact ⟨⟨by decide, by decide⟩, fun _ => h, fun h => absurd h (by decide)⟩
theorem m_unr {nn : Nat → Nat} {σ : kM} {p0 : Int} {Pr : Int → kM → Prop} (hc : 0 ≤ σ 27 16 ∧ σ 27 16 ≤ 16) (h9 : σ 27 9 = 0 ∨ σ 27 9 = 1) (hb : σ 27 9 = 1 → Rb (σ 27 12) (σ 27 10) (σ 27 11)) (hF : ∀ j, 0 ≤ σ 31 j ∧ σ 31 j ≤ 359 ∧ 0 ≤ σ 32 j ∧ σ 32 j ≤ 1000) (hp0 : iR p0) (k0 : (0 ≤ p0 ∧ p0 ≤ σ 27 16 - 1) → σ 27 9 = 1 → Pr (plc (σ 27 12) (σ 27 10) (σ 27 11) (σ 31 p0.toNat) (σ 32 p0.toNat)) (va_up σ 27 (va_up (σ 27) 0 0))) (k1 : ¬ (0 ≤ p0 ∧ p0 ≤ σ 27 16 - 1) → Pr 0 (va_up σ 27 (va_up (σ 27) 0 1))) (k2 : (0 ≤ p0 ∧ p0 ≤ σ 27 16 - 1) → σ 27 9 = 0 → Pr 0 (va_up σ 27 (va_up (σ 27) 0 2))) : wp_M_unrolled nn σ p0 Pr := by
  have hn : ∀ v : Int, v = 1 ∨ v = 2 → Pr 0 (va_up σ 27 (va_up (σ 27) 0 v)) → jn_M_unrolled_31 nn p0 σ Pr v := by
    rintro v hv k s1 rfl
    exact ⟨(⟨by omega, by omega⟩ : iR v), fun (h : v ≤ 0) => by omega, fun _ => k⟩
  refine ex_mB hp0 iR_0 ⟨by omega, by omega⟩ (fun a b => ⟨⟨by omega, by omega⟩, fun h => hn 2 (Or.inr rfl) (k2 ⟨a, b⟩ h), fun h => ?_⟩) (fun h => hn 1 (Or.inl rfl) (k1 h))
  have h1 : σ 27 9 = 1 := by omega
  rintro s1 rfl
  refine ⟨iR_0, fun _ => ⟨fun r => r = _, m_place (σ := va_up σ 27 (va_up (σ 27) 0 0)) (Pr := fun r => r = _) (hb h1) hF ⟨a, by omega⟩ rfl, ?_⟩, fun h => absurd (Int.le_refl 0) h⟩
  rintro r rfl
  exact k0 ⟨a, b⟩ h1
theorem r_unrolled {n d N : Int} {nn : Nat → Nat} {xs : Nat → Int32} (i : Int) (σ : kM) (h : Rel n d N σ) : wl_8 nn xs i σ (Rel n d N) := by
  have hR := h
  obtain ⟨hG, hC, hQ, hA, hM, ⟨hB1, hB2, hB3⟩, ⟨hc, h0, h8, hw1, hw2, hw3, hj⟩, hL, hP, hK⟩ := h
  have hp0 := xI_in xs (i + 1)
  unfold wl_8
  generalize xI xs (i + 1) = p0 at hp0 ⊢
  have hic : iR (σ 4 3 - 1) := ⟨by omega, by omega⟩
  have hFc : ∀ j, 0 ≤ σ 13 j ∧ σ 13 j ≤ 359 ∧ 0 ≤ σ 14 j ∧ σ 14 j ≤ 1000 := fun j => ⟨(hj j).1, (hj j).2.1, (hj j).2.2.1, (hj j).2.2.2.1⟩
  have hFm : ∀ j, 0 ≤ σ 31 j ∧ σ 31 j ≤ 359 ∧ 0 ≤ σ 32 j ∧ σ 32 j ≤ 1000 := fun j => by rw [hw1, hw2]; exact hFc j
  have hbm : σ 27 9 = 1 → Rb (σ 27 12) (σ 27 10) (σ 27 11) := fun h => by
    obtain ⟨g1, g2, g3, g4⟩ := hB3 (by omega)
    rw [g1, g2, g3]; exact g4
  by_cases ho : 0 ≤ p0 ∧ p0 ≤ σ 4 3 - 1
  · by_cases hd : σ 3 0 = 1
    · obtain ⟨g1, g2, g3, g4⟩ := hB3 hd
      have hb : Rb (σ 3 1) (σ 3 2) (σ 3 3) := g4
      have hv0 := plc_ge (a := σ 13 p0.toNat) (f := σ 14 p0.toNat) hb ⟨(hFc p0.toNat).1, (hFc p0.toNat).2.1⟩ (hFc p0.toNat).2.2.1
      have hv : iR (plc (σ 3 1) (σ 3 2) (σ 3 3) (σ 13 p0.toNat) (σ 14 p0.toNat)) := ⟨by omega, by omega⟩
      refine ⟨fun r s => r = 0 ∧ s = va_up σ 26 (va_up (σ 26) 0 (plc (σ 3 1) (σ 3 2) (σ 3 3) (σ 13 p0.toNat) (σ 14 p0.toNat))), Or.inl ⟨fun r s => r = plc (σ 3 1) (σ 3 2) (σ 3 3) (σ 13 p0.toNat) (σ 14 p0.toNat) ∧ s = σ, ex_fhB hp0 hic (fun _ _ => ex_pl hB2 (fun _ => ⟨fun r => r = _, p_place (Pr := fun r => r = _) hb hFc ⟨ho.1, by omega⟩ rfl, fun r e => ⟨e, rfl⟩⟩) (fun h => by omega)) (fun h => absurd ho h), ?_⟩, ?_⟩
      · rintro r s ⟨rfl, rfl⟩
        exact ⟨hv, fun s2 hs => ⟨rfl, hs⟩⟩
      · rintro r1 s1 ⟨rfl, rfl⟩
        refine ⟨fun r s => r = plc (σ 3 1) (σ 3 2) (σ 3 3) (σ 13 p0.toNat) (σ 14 p0.toNat) ∧ s = va_up (va_up σ 26 (va_up (σ 26) 0 (plc (σ 3 1) (σ 3 2) (σ 3 3) (σ 13 p0.toNat) (σ 14 p0.toNat)))) 27 (va_up (σ 27) 0 0), m_unr (σ := va_up σ 26 (va_up (σ 26) 0 (plc (σ 3 1) (σ 3 2) (σ 3 3) (σ 13 p0.toNat) (σ 14 p0.toNat)))) (by show 0 ≤ σ 27 16 ∧ σ 27 16 ≤ 16; omega) (by show σ 27 9 = 0 ∨ σ 27 9 = 1; omega) hbm hFm hp0 (fun _ _ => ⟨by show plc (σ 27 12) (σ 27 10) (σ 27 11) (σ 31 p0.toNat) (σ 32 p0.toNat) = _; rw [g1, g2, g3, hw1, hw2], rfl⟩) (fun hn => absurd (show 0 ≤ p0 ∧ p0 ≤ σ 27 16 - 1 by omega) hn) (fun _ hn => absurd (show σ 27 9 = 0 from hn) (by omega)), ?_⟩
        rintro r2 s2 ⟨rfl, rfl⟩
        exact cmpN rfl hv rfl hR.out.thr
    · refine ⟨fun r s => r = 2 ∧ s = σ, Or.inr ⟨fun k => k = 2, ex_fhB hp0 hic (fun _ _ => ex_pl hB2 (fun h => absurd h hd) (fun _ => rfl)) (fun h => absurd ho h), fun k hk => Or.inr ⟨hk, rfl, rfl⟩⟩, ?_⟩
      rintro r1 s1 ⟨rfl, rfl⟩
      refine ⟨fun r s => s = va_up s1 27 (va_up (s1 27) 0 2), m_unr (by omega) (by omega) hbm hFm hp0 (fun _ hn => by omega) (fun hn => absurd (by omega) hn) (fun _ _ => rfl), ?_⟩
      rintro r2 s2 rfl
      exact cmpT rfl (Or.inr rfl) hR.thr
  · refine ⟨fun r s => r = 1 ∧ s = σ, Or.inr ⟨fun k => k = 0, ex_fhB hp0 hic (fun a b => absurd ⟨a, b⟩ ho) (fun _ => rfl), fun k hk => Or.inl ⟨hk, rfl, rfl⟩⟩, ?_⟩
    rintro r1 s1 ⟨rfl, rfl⟩
    refine ⟨fun r s => s = va_up s1 27 (va_up (s1 27) 0 1), m_unr (by omega) (by omega) hbm hFm hp0 (fun hn => absurd (hc ▸ hn) ho) (fun _ => rfl) (fun hn => absurd (hc ▸ hn) ho), ?_⟩
    rintro r2 s2 rfl
    exact cmpT rfl (Or.inl rfl) hR.thr
