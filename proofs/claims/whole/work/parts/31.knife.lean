/-! the knife's rows -/
def knF (r a : Nat → Int) (p : Int) : Nat → Int
  | 0 => -1
  | k + 1 => if p ≤ r k then a k + 1000 else knF r a p k
theorem knF_in {r a : Nat → Int} {p : Int} (h : ∀ j, -100 ≤ a j ∧ a j ≤ 100) : ∀ k, -1 ≤ knF r a p k ∧ knF r a p k ≤ 1100
  | 0 => ⟨by simp [knF], by simp [knF]⟩
  | k + 1 => by
    have := h k
    have := knF_in (r := r) (p := p) h k
    unfold knF
    split <;> omega
theorem k_ans {nn : Nat → Nat} {σ : kM} {p0 : Int} {Pr : Int → Prop} (hc : 0 ≤ σ 7 2 ∧ σ 7 2 ≤ 8) (hb : ∀ j, iR (σ 24 j)) (hp : iR p0) (k : Pr (knF (σ 24) (σ 25) p0 (σ 7 2).toNat)) : wp_K_answerAt nn σ p0 Pr := by
  intro v1 hv1
  have hL := lp1 (lp_K_answerAt_7 nn p0 σ Pr (fun _ => knF (σ 24) (σ 25) p0 (σ 7 2).toNat = -1)) (fun v => -1 ≤ v ∧ v < 8 ∧ knF (σ 24) (σ 25) p0 (σ 7 2).toNat = knF (σ 24) (σ 25) p0 (v + 1).toNat) (fun v => (v + 1).toNat) ?_ v1 ⟨by omega, by omega, by rw [hv1]; congr 2; omega⟩
  · obtain ⟨k1, hk⟩ := hL
    exact ⟨_, k1, hk, fun v3 h => h ▸ k⟩
  · rintro n v ⟨h1, h2, h3⟩ ih
    refine ⟨⟨by omega, by omega⟩, fun h => ?_, fun h => ⟨⟨by omega, by omega, by omega⟩, hb _, hp, fun h4 w hw => ?_, fun h4 => ⟨⟨by omega, by omega, by omega⟩, ?_⟩⟩⟩
    · rw [h3, show (v + 1).toNat = 0 by omega]; rfl
    · subst hw
      have e : (v + 1).toNat = v.toNat + 1 := by omega
      refine ih _ ⟨by omega, by omega, ?_⟩ (by omega)
      rw [h3, e, knF, if_neg (by omega), show (v + -1 + 1).toNat = v.toNat by omega]
    · have e : (v + 1).toNat = v.toNat + 1 := by omega
      rw [h3, e, knF, if_pos (by omega)] at k
      exact k
theorem m_knife {nn : Nat → Nat} {σ : kM} {p0 : Int} {Pr : Int → kM → Prop} (hc : 0 ≤ σ 27 31 ∧ σ 27 31 ≤ 8) (hb : ∀ j, iR (σ 42 j)) (hp : iR p0) (k : 0 ≤ p0 → p0 ≤ 1000 → Pr (knF (σ 42) (σ 43) p0 (σ 27 31).toNat) (va_up σ 27 (va_up (σ 27) 0 0))) (kt : ¬ (0 ≤ p0 ∧ p0 ≤ 1000) → Pr 0 (va_up σ 27 (va_up (σ 27) 0 1))) : wp_M_knife nn σ p0 Pr := by
  refine ex_mA hp iR_0 ⟨by decide, by decide⟩ (fun h1 h2 => ?_) (fun h => ?_)
  · rintro s1 rfl
    have hL := lp2 (lp_M_knife_24 nn p0 (va_up σ 27 (va_up (σ 27) 0 0)) (fun _ v => v = knF (σ 42) (σ 43) p0 (σ 27 31).toNat)) (fun v2 v3 => 0 ≤ v2 ∧ v2 ≤ σ 27 31 ∧ v3 = knF (σ 42) (σ 43) p0 v2.toNat) (fun v2 _ => (σ 27 31 - v2).toNat) ?_ 0 (-1) ⟨by omega, by omega, rfl⟩
    · obtain ⟨k1, hk⟩ := hL
      refine ⟨_, k1, hk, fun v4 v5 h => ⟨iR_0, fun _ => h ▸ k h1 h2, fun h => absurd (Int.le_refl 0) h⟩⟩
    · rintro n v2 v3 ⟨g1, g2, g3⟩ ih
      refine ⟨⟨by omega, by omega⟩, (⟨by omega, by omega⟩ : iR (σ 27 31)), fun (h : σ 27 31 ≤ v2) => ?_, fun (h : ¬ σ 27 31 ≤ v2) => ⟨iR_0, fun h => absurd rfl h, fun _ => ⟨⟨by omega, by omega, by omega⟩, hb _, hp, fun h4 w hw => ?_, fun h4 => ⟨⟨by omega, by omega, by omega⟩, ?_⟩⟩⟩⟩
      · rw [g3, show v2 = σ 27 31 by omega]
      · subst hw
        have h4 : σ 42 v2.toNat < p0 := h4
        refine ih _ _ ⟨by omega, by omega, ?_⟩ (by omega)
        rw [g3, show (v2 + 1).toNat = v2.toNat + 1 by omega, knF, if_neg (by omega)]
      · rintro v7 rfl v8 rfl
        have h4 : ¬ σ 42 v2.toNat < p0 := h4
        refine ih _ _ ⟨by omega, by omega, ?_⟩ (by omega)
        rw [show (v2 + 1).toNat = v2.toNat + 1 by omega, knF, if_pos (by omega)]
        exact Int.add_comm _ _
  · rintro s1 rfl
    have hL := lp2 (lp_M_knife_24 nn p0 (va_up σ 27 (va_up (σ 27) 0 1)) (fun _ _ => True)) (fun v2 v3 => v2 = 0) (fun v2 _ => 0) ?_ 0 (-1) rfl
    · obtain ⟨k1, hk⟩ := hL
      refine ⟨_, k1, hk, fun v4 v5 _ => ⟨(⟨by decide, by decide⟩ : iR 1), fun (h : (1 : Int) ≤ 0) => absurd h (by decide), fun _ => kt h⟩⟩
    · rintro n v2 v3 rfl ih
      exact ⟨iR_0, (⟨by omega, by omega⟩ : iR (σ 27 31)), fun _ => trivial, fun _ => ⟨(⟨by decide, by decide⟩ : iR 1), fun _ => trivial, fun (h : (1 : Int) = 0) => absurd h (by decide)⟩⟩
theorem r_knife {n d N : Int} {nn : Nat → Nat} {xs : Nat → Int32} (i : Int) (σ : kM) (h : Rel n d N σ) : wl_16 nn xs i σ (Rel n d N) := by
  have hR := h
  obtain ⟨-, -, -, -, -, -, -, -, -, hc, h0, h8, hr, ha, hj⟩ := h
  have hp := xI_in xs (i + 1)
  have hb : ∀ j, iR (σ 24 j) := fun j => ⟨by have := hj j; omega, by have := hj j; omega⟩
  have hin := knF_in (r := σ 24) (a := σ 25) (p := xI xs (i + 1)) (fun j => ⟨(hj j).2.2.1, (hj j).2.2.2⟩) (σ 7 2).toNat
  unfold wl_16
  by_cases hw : 0 ≤ xI xs (i + 1) ∧ xI xs (i + 1) ≤ 1000
  · refine ⟨fun r s => r = 0 ∧ s = va_up σ 26 (va_up (σ 26) 0 (knF (σ 24) (σ 25) (xI xs (i + 1)) (σ 7 2).toNat)), Or.inl ⟨fun r s => r = knF (σ 24) (σ 25) (xI xs (i + 1)) (σ 7 2).toNat ∧ s = σ, ex_wB hp iR_0 ⟨by decide, by decide⟩ (fun _ _ => ⟨_, k_ans ⟨h0, h8⟩ hb hp rfl, fun r2 e => ⟨e.symm, rfl⟩⟩) (fun h => absurd hw h), ?_⟩, ?_⟩
    · rintro r s ⟨rfl, rfl⟩
      exact ⟨⟨by omega, by omega⟩, fun s2 hs2 => ⟨rfl, hs2⟩⟩
    · rintro r1 s1 ⟨rfl, rfl⟩
      refine ⟨fun r s => r = knF (σ 24) (σ 25) (xI xs (i + 1)) (σ 7 2).toNat ∧ s = _, m_knife (σ := va_up σ 26 _) (Pr := fun r s => r = _ ∧ s = _) (by show 0 ≤ σ 27 31 ∧ σ 27 31 ≤ 8; omega) (fun j => by show iR (σ 42 j); rw [hr]; exact hb j) hp (fun _ _ => ⟨by show knF (σ 42) (σ 43) _ (σ 27 31).toNat = _; rw [hr, ha, hc], rfl⟩) (fun h => absurd hw h), ?_⟩
      rintro r2 s2 ⟨rfl, rfl⟩
      exact cmpN rfl ⟨by omega, by omega⟩ rfl hR.out.thr
  · refine ⟨fun r s => r = 1 ∧ s = σ, Or.inr ⟨fun k => k = 1, ex_wB hp iR_0 ⟨by decide, by decide⟩ (fun a b => absurd ⟨a, b⟩ hw) (fun _ => rfl), fun k hk => ⟨hk, rfl, rfl⟩⟩, ?_⟩
    rintro r1 s1 ⟨rfl, rfl⟩
    refine ⟨fun r s => s = va_up s1 27 (va_up (s1 27) 0 1), m_knife (by omega) (fun j => by rw [hr]; exact hb j) hp (fun a b => absurd ⟨a, b⟩ hw) (fun _ => rfl), ?_⟩
    rintro r2 s2 rfl
    exact cmpT rfl (Or.inl rfl) hR.thr
