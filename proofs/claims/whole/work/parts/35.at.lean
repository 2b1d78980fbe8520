/-! at, clipped -/
theorem ex_dn {nn : Nat → Nat} {σ : kM} {A B : Prop} (hc : σ 6 5 = 0 ∨ σ 6 5 = 1) (h1 : σ 6 5 = 1 → B) (h0 : σ 6 5 = 0 → A) : ∃ P : Int → Prop, wp_C_isDone nn σ P ∧ ∀ r : Int, P r → iR r ∧ ((¬ r = 0 → B) ∧ (r = 0 → A)) := by
  refine ⟨fun r => r = σ 6 5, ⟨hc, rfl⟩, ?_⟩
  rintro r rfl
  exact ⟨⟨by omega, by omega⟩, fun h => h1 (by omega), h0⟩
theorem ex_pl {nn : Nat → Nat} {σ : kM} {A B : Prop} (hc : σ 3 0 = 0 ∨ σ 3 0 = 1) (h1 : σ 3 0 = 1 → B) (h0 : σ 3 0 = 0 → A) : ∃ P : Int → Prop, wp_R_isPeeled nn σ P ∧ ∀ r : Int, P r → iR r ∧ ((¬ r = 0 → B) ∧ (r = 0 → A)) := by
  refine ⟨fun r => r = σ 3 0, ⟨hc, rfl⟩, ?_⟩
  rintro r rfl
  exact ⟨⟨by omega, by omega⟩, fun h => h1 (by omega), h0⟩
def okAt (c p0 p1 : Int) : Prop := (0 ≤ p0 ∧ p0 ≤ c - 1) ∧ (0 ≤ p1 ∧ p1 ≤ 1)
theorem m_at {nn : Nat → Nat} {σ : kM} {p0 p1 : Int} {Pr : Int → kM → Prop} (h21 : σ 27 21 = 0 ∨ σ 27 21 = 1) (hc : σ 27 21 = 1 → 0 ≤ σ 27 28 ∧ σ 27 28 ≤ 2000) (hp0 : iR p0) (hp1 : iR p1) (k0 : σ 27 21 = 1 → okAt (σ 27 28) p0 p1 → Pr (if p1 = 0 then σ 40 p0.toNat else σ 41 p0.toNat) (va_up σ 27 (va_up (σ 27) 0 0))) (k1 : σ 27 21 = 0 → Pr 0 (va_up σ 27 (va_up (σ 27) 0 1))) (k2 : σ 27 21 = 1 → ¬ okAt (σ 27 28) p0 p1 → Pr 0 (va_up σ 27 (va_up (σ 27) 0 2))) : wp_M_at nn σ p0 p1 Pr := by
  have hn : ∀ v : Int, v = 1 ∨ v = 2 → Pr 0 (va_up σ 27 (va_up (σ 27) 0 v)) → jn_M_at_40 nn p0 p1 σ Pr v := by
    rintro v hv k s1 rfl
    exact ⟨(⟨by omega, by omega⟩ : iR v), fun (h : v ≤ 0) => by omega, fun _ => k⟩
  refine ⟨⟨by omega, by omega⟩, fun h => ?_, fun h => hn 1 (Or.inl rfl) (k1 h)⟩
  have h1 : σ 27 21 = 1 := by omega
  have hc := hc h1
  refine ex_mA hp0 iR_0 ⟨by omega, by omega⟩ (fun a b => ex_mA hp1 iR_0 ⟨by decide, by decide⟩ (fun c e => ?_) (fun h => hn 2 (Or.inr rfl) (k2 h1 (fun q => h q.2)))) (fun h => hn 2 (Or.inr rfl) (k2 h1 (fun q => h q.1)))
  have k0 := k0 h1 ⟨⟨a, b⟩, c, e⟩
  rintro s1 rfl
  refine ⟨iR_0, fun _ => ⟨hp1, fun q => ⟨⟨a, by omega, by omega⟩, ?_⟩, fun q => ⟨⟨a, by omega, by omega⟩, ?_⟩⟩, fun h => absurd (Int.le_refl 0) h⟩
  · rw [if_neg q] at k0; exact k0
  · rw [if_pos q] at k0; exact k0
theorem r_at {n d N : Int} {nn : Nat → Nat} {xs : Nat → Int32} (i : Int) (σ : kM) (h : Rel n d N σ) : wl_12 nn xs i σ (Rel n d N) := by
  have hR := h
  obtain ⟨hG, hC, hQ, hA, hM, hB, hF, hL, ⟨hP1, hP2, hP3⟩, hK⟩ := h
  have hp0 := xI_in xs (i + 1)
  have hp1 := xI_in xs (i + 2)
  unfold wl_12
  generalize xI xs (i + 1) = p0 at hp0 ⊢
  generalize xI xs (i + 2) = p1 at hp1 ⊢
  by_cases hd : σ 6 5 = 1
  · obtain ⟨g1, g2, g3, g4, g5, g6, g7, g8, g9, g10⟩ := hP3 hd
    by_cases hw : okAt (σ 6 7) p0 p1
    · obtain ⟨f1, f2, f3, f4, f5⟩ := g10 p0.toNat (by have := hw.1; omega)
      have hin : 0 ≤ p0 ∧ p0 < 2000 ∧ p0 < 2147483648 := by have := hw.1; omega
      have hv : iR (if p1 = 0 then σ 40 p0.toNat else σ 41 p0.toNat) := by
        split
        · exact f5
        · rw [f3]; exact ⟨by omega, by omega⟩
      refine ⟨fun r s => r = 0 ∧ s = va_up σ 26 (va_up (σ 26) 0 (if p1 = 0 then σ 40 p0.toNat else σ 41 p0.toNat)), Or.inl ⟨fun r s => r = (if p1 = 0 then σ 40 p0.toNat else σ 41 p0.toNat) ∧ s = σ, ex_dn hP2 (fun _ => ex_wA hp0 iR_0 ⟨by omega, by omega⟩ (fun _ _ => ex_wB hp1 iR_0 ⟨by decide, by decide⟩ (fun _ _ => ⟨hp1, fun q => ?_, fun q => ?_⟩) (fun h => absurd hw.2 h)) (fun h => absurd hw.1 h)) (fun h => by omega), ?_⟩, ?_⟩
      · refine ⟨fun r => r = σ 22 p0.toNat, ⟨hin, rfl⟩, ?_⟩
        rintro r rfl
        rw [if_neg q]; exact ⟨f3.symm, rfl⟩
      · refine ⟨fun r => r = σ 21 (σ 22 p0.toNat).toNat, ⟨hin, ⟨f1, f2, by omega⟩, rfl⟩, ?_⟩
        rintro r rfl
        rw [if_pos q]; exact ⟨f4.symm, rfl⟩
      · rintro r s ⟨rfl, rfl⟩
        exact ⟨hv, fun s2 hs => ⟨rfl, hs⟩⟩
      · rintro r1 s1 ⟨rfl, rfl⟩
        refine ⟨fun r s => r = (if p1 = 0 then σ 40 p0.toNat else σ 41 p0.toNat) ∧ s = va_up (va_up σ 26 (va_up (σ 26) 0 (if p1 = 0 then σ 40 p0.toNat else σ 41 p0.toNat))) 27 (va_up (σ 27) 0 0), m_at (σ := va_up σ 26 (va_up (σ 26) 0 (if p1 = 0 then σ 40 p0.toNat else σ 41 p0.toNat))) (by show σ 27 21 = 0 ∨ σ 27 21 = 1; omega) (fun _ => by show 0 ≤ σ 27 28 ∧ σ 27 28 ≤ 2000; omega) hp0 hp1 (fun _ _ => ⟨rfl, rfl⟩) (fun hn => absurd (show σ 27 21 = 0 from hn) (by omega)) (fun _ hn => absurd (show okAt (σ 27 28) p0 p1 by rw [g2]; exact hw) hn), ?_⟩
        rintro r2 s2 ⟨rfl, rfl⟩
        exact cmpN rfl hv rfl hR.out.thr
    · refine ⟨fun r s => r = 2 ∧ s = σ, Or.inr ⟨fun k => k = 0, ex_dn hP2 (fun _ => ex_wA hp0 iR_0 ⟨by omega, by omega⟩ (fun a b => ex_wB hp1 iR_0 ⟨by decide, by decide⟩ (fun c e => absurd ⟨⟨a, b⟩, c, e⟩ hw) (fun _ => rfl)) (fun _ => rfl)) (fun h => by omega), fun k hk => Or.inr ⟨hk, rfl, rfl⟩⟩, ?_⟩
      rintro r1 s1 ⟨rfl, rfl⟩
      refine ⟨fun r s => s = va_up s1 27 (va_up (s1 27) 0 2), m_at (by omega) (fun _ => by omega) hp0 hp1 (fun _ hn => absurd (g2 ▸ hn) hw) (fun hn => by omega) (fun _ _ => rfl), ?_⟩
      rintro r2 s2 rfl
      exact cmpT rfl (Or.inr rfl) hR.thr
  · refine ⟨fun r s => r = 1 ∧ s = σ, Or.inr ⟨fun k => k = 2, ex_dn hP2 (fun h => absurd h hd) (fun h => rfl), fun k hk => Or.inl ⟨hk, rfl, rfl⟩⟩, ?_⟩
    rintro r1 s1 ⟨rfl, rfl⟩
    refine ⟨fun r s => s = va_up s1 27 (va_up (s1 27) 0 1), m_at (by omega) (fun h => by omega) hp0 hp1 (fun h => by omega) (fun _ => rfl) (fun h => by omega), ?_⟩
    rintro r2 s2 rfl
    exact cmpT rfl (Or.inl rfl) hR.thr
def clA (p a b c : Int) : Int := if p = 0 then a else if p = 1 then b else c
theorem m_cld {nn : Nat → Nat} {σ : kM} {p0 : Int} {Pr : Int → kM → Prop} (h21 : σ 27 21 = 0 ∨ σ 27 21 = 1) (hp0 : iR p0) (k0 : σ 27 21 = 1 → (0 ≤ p0 ∧ p0 ≤ 2) → Pr (clA p0 (σ 38 0) (σ 39 0) (σ 27 22)) (va_up σ 27 (va_up (σ 27) 0 0))) (k1 : σ 27 21 = 0 → Pr 0 (va_up σ 27 (va_up (σ 27) 0 1))) (k2 : σ 27 21 = 1 → ¬ (0 ≤ p0 ∧ p0 ≤ 2) → Pr 0 (va_up σ 27 (va_up (σ 27) 0 2))) : wp_M_clipped nn σ p0 Pr := by
  have hn : ∀ v : Int, v = 1 ∨ v = 2 → Pr 0 (va_up σ 27 (va_up (σ 27) 0 v)) → jn_M_clipped_26 nn p0 σ Pr v := by
    rintro v hv k s1 rfl
    exact ⟨(⟨by omega, by omega⟩ : iR v), fun (h : v ≤ 0) => by omega, fun _ => k⟩
  refine ⟨⟨by omega, by omega⟩, fun h => ?_, fun h => hn 1 (Or.inl rfl) (k1 h)⟩
  have h1 : σ 27 21 = 1 := by omega
  refine ex_mA hp0 iR_0 ⟨by decide, by decide⟩ (fun a b => ?_) (fun h => hn 2 (Or.inr rfl) (k2 h1 h))
  have k0 := k0 h1 ⟨a, b⟩
  unfold clA at k0
  rintro s1 rfl
  refine ⟨iR_0, fun _ => ⟨hp0, fun q => ⟨hp0, fun q2 => ?_, fun q2 => ?_⟩, fun q => ?_⟩, fun h => absurd (Int.le_refl 0) h⟩
  · rw [if_neg q, if_neg q2] at k0; exact k0
  · rw [if_neg q, if_pos q2] at k0; exact k0
  · rw [if_pos q] at k0; exact k0
theorem r_clipped {n d N : Int} {nn : Nat → Nat} {xs : Nat → Int32} (i : Int) (σ : kM) (h : Rel n d N σ) : wl_13 nn xs i σ (Rel n d N) := by
  have hR := h
  obtain ⟨hG, hC, hQ, hA, hM, hB, hF, hL, ⟨hP1, hP2, hP3⟩, hK⟩ := h
  have hp0 := xI_in xs (i + 1)
  unfold wl_13
  generalize xI xs (i + 1) = p0 at hp0 ⊢
  by_cases hd : σ 6 5 = 1
  · obtain ⟨g1, g2, g3, g4, g5, g6, g7, g8, g9, g10⟩ := hP3 hd
    by_cases hw : 0 ≤ p0 ∧ p0 ≤ 2
    · have hv : iR (clA p0 (σ 6 8) (σ 6 9) (σ 6 6)) := by
        unfold clA
        split
        · exact g8
        · split
          · exact g9
          · exact g5
      refine ⟨fun r s => r = 0 ∧ s = va_up σ 26 (va_up (σ 26) 0 (clA p0 (σ 6 8) (σ 6 9) (σ 6 6))), Or.inl ⟨fun r s => r = clA p0 (σ 6 8) (σ 6 9) (σ 6 6) ∧ s = σ, ex_dn hP2 (fun _ => ex_wB hp0 iR_0 ⟨by decide, by decide⟩ (fun _ _ => ⟨hp0, fun q => ⟨hp0, fun q2 => ?_, fun q2 => ?_⟩, fun q => ?_⟩) (fun h => absurd hw h)) (fun h => by omega), ?_⟩, ?_⟩
      · unfold clA; rw [if_neg q, if_neg q2]; exact ⟨rfl, rfl⟩
      · unfold clA; rw [if_neg q, if_pos q2]; exact ⟨rfl, rfl⟩
      · unfold clA; rw [if_pos q]; exact ⟨rfl, rfl⟩
      · rintro r s ⟨rfl, rfl⟩
        exact ⟨hv, fun s2 hs => ⟨rfl, hs⟩⟩
      · rintro r1 s1 ⟨rfl, rfl⟩
        refine ⟨fun r s => r = clA p0 (σ 6 8) (σ 6 9) (σ 6 6) ∧ s = va_up (va_up σ 26 (va_up (σ 26) 0 (clA p0 (σ 6 8) (σ 6 9) (σ 6 6)))) 27 (va_up (σ 27) 0 0), m_cld (σ := va_up σ 26 (va_up (σ 26) 0 (clA p0 (σ 6 8) (σ 6 9) (σ 6 6)))) (by show σ 27 21 = 0 ∨ σ 27 21 = 1; omega) hp0 (fun _ _ => ⟨by show clA p0 (σ 38 0) (σ 39 0) (σ 27 22) = _; rw [g1, g3, g4], rfl⟩) (fun hn => absurd (show σ 27 21 = 0 from hn) (by omega)) (fun _ hn => absurd hw hn), ?_⟩
        rintro r2 s2 ⟨rfl, rfl⟩
        exact cmpN rfl hv rfl hR.out.thr
    · refine ⟨fun r s => r = 2 ∧ s = σ, Or.inr ⟨fun k => k = 0, ex_dn hP2 (fun _ => ex_wB hp0 iR_0 ⟨by decide, by decide⟩ (fun a b => absurd ⟨a, b⟩ hw) (fun _ => rfl)) (fun h => by omega), fun k hk => Or.inr ⟨hk, rfl, rfl⟩⟩, ?_⟩
      rintro r1 s1 ⟨rfl, rfl⟩
      refine ⟨fun r s => s = va_up s1 27 (va_up (s1 27) 0 2), m_cld (by omega) hp0 (fun _ hn => absurd hn hw) (fun hn => by omega) (fun _ _ => rfl), ?_⟩
      rintro r2 s2 rfl
      exact cmpT rfl (Or.inr rfl) hR.thr
  · refine ⟨fun r s => r = 1 ∧ s = σ, Or.inr ⟨fun k => k = 2, ex_dn hP2 (fun h => absurd h hd) (fun h => rfl), fun k hk => Or.inl ⟨hk, rfl, rfl⟩⟩, ?_⟩
    rintro r1 s1 ⟨rfl, rfl⟩
    refine ⟨fun r s => s = va_up s1 27 (va_up (s1 27) 0 1), m_cld (by omega) hp0 (fun h => by omega) (fun _ => rfl) (fun h => by omega), ?_⟩
    rintro r2 s2 rfl
    exact cmpT rfl (Or.inl rfl) hR.thr
