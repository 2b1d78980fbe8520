/-! row -/
def blw (c : Int) (r : Nat → Int) (p : Int) : Prop := c = 0 ∨ p < r (c - 1).toNat
def okRow (c : Int) (r : Nat → Int) (p0 p1 : Int) : Prop := (0 ≤ p0 ∧ p0 ≤ 1000) ∧ blw c r p0 ∧ (-100 ≤ p1 ∧ p1 ≤ 100)
def sRow (σ : kM) (p0 p1 : Int) : kM := va_up (va_up (va_up σ 24 (va_up (σ 24) (σ 7 2).toNat p0)) 25 (va_up (σ 25) (σ 7 2).toNat p1)) 7 (va_up (σ 7) 2 (σ 7 2 + 1))
def mRow (σ : kM) (p0 p1 : Int) : kM := va_up (va_up (va_up (va_up σ 27 (va_up (σ 27) 0 0)) 42 (va_up (σ 42) (σ 27 31).toNat p0)) 43 (va_up (σ 43) (σ 27 31).toNat p1)) 27 (va_up (va_up (σ 27) 0 0) 31 (σ 27 31 + 1))
theorem ex_bl {nn : Nat → Nat} {σ : kM} {p : Int} {A B : Prop} (hc : 0 ≤ σ 7 2 ∧ σ 7 2 ≤ 8) (hb : ∀ j, iR (σ 24 j)) (hp : iR p) (h1 : blw (σ 7 2) (σ 24) p → B) (h0 : ¬ blw (σ 7 2) (σ 24) p → A) : ∃ P : Int → Prop, wp_K_isBelowLast nn σ p P ∧ ∀ r : Int, P r → iR r ∧ ((r = 0 → A) ∧ (¬ r = 0 → B)) := by
  refine ⟨fun r => (r = 0 ∧ A) ∨ (r = 1 ∧ B), ⟨⟨by omega, by omega⟩, fun h => Or.inr ⟨rfl, h1 (Or.inl h)⟩, fun h => ⟨⟨by omega, by omega, by omega⟩, hp, hb _, fun h2 => Or.inl ⟨rfl, h0 (fun q => q.elim h (fun q => by omega))⟩, fun h2 => Or.inr ⟨rfl, h1 (Or.inr (by omega))⟩⟩⟩, ?_⟩
  rintro r (⟨rfl, h⟩ | ⟨rfl, h⟩)
  · exact ⟨⟨by decide, by decide⟩, fun _ => h, fun h => absurd rfl h⟩
  · exact ⟨⟨by decide, by decide⟩, fun h => absurd h (by decide), fun _ => h⟩
theorem p_row {nn : Nat → Nat} {σ : kM} {p0 p1 : Int} {Pr : Int → kM → Prop} {Px : Nat → kM → Prop} (hc : 0 ≤ σ 7 2 ∧ σ 7 2 ≤ 8) (hb : ∀ j, iR (σ 24 j)) (hp0 : iR p0) (hp1 : iR p1) (hw : okRow (σ 7 2) (σ 24) p0 p1) (k1 : σ 7 2 < 8 → Pr 1 (sRow σ p0 p1)) (k0 : ¬ σ 7 2 < 8 → Pr 0 σ) : wp_P_row nn σ p0 p1 Pr Px := by
  refine ex_wA hp0 iR_0 ⟨by decide, by decide⟩ (fun _ _ => ex_bl hc hb hp0 (fun _ => ex_wB hp1 ⟨by decide, by decide⟩ ⟨by decide, by decide⟩ (fun _ _ => ?_) (fun h => absurd hw.2.2 h)) (fun h => absurd hw.2.1 h)) (fun h => absurd hw.1 h)
  refine ⟨fun r s => (r = 0 ∨ r = 1) ∧ Pr r s, ⟨⟨by omega, by omega⟩, fun h => ⟨⟨by omega, by omega, by omega⟩, ?_⟩, fun h => ⟨Or.inl rfl, k0 h⟩⟩, fun r s h => h⟩
  rintro s1 rfl
  refine ⟨⟨hc.1, h, by show σ 7 2 < _; omega⟩, ?_⟩
  rintro s2 rfl s3 rfl
  exact ⟨Or.inr rfl, k1 h⟩
theorem t_row {nn : Nat → Nat} {σ : kM} {p0 p1 : Int} {Px : Nat → Prop} (hc : 0 ≤ σ 7 2 ∧ σ 7 2 ≤ 8) (hb : ∀ j, iR (σ 24 j)) (hp0 : iR p0) (hp1 : iR p1) (hw : ¬ okRow (σ 7 2) (σ 24) p0 p1) (k : Px 1) : wt_P_row nn σ p0 p1 Px :=
  ex_wA hp0 iR_0 ⟨by decide, by decide⟩ (fun a b => ex_bl hc hb hp0 (fun c => ex_wB hp1 ⟨by decide, by decide⟩ ⟨by decide, by decide⟩ (fun d e => hw ⟨⟨a, b⟩, c, d, e⟩) (fun _ => k)) (fun _ => k)) (fun _ => k)
theorem m_row {nn : Nat → Nat} {σ : kM} {p0 p1 : Int} {Pr : Int → kM → Prop} (hc : 0 ≤ σ 27 31 ∧ σ 27 31 ≤ 8) (hb : ∀ j, iR (σ 42 j)) (hp0 : iR p0) (hp1 : iR p1) (k1 : okRow (σ 27 31) (σ 42) p0 p1 → σ 27 31 < 8 → Pr 1 (mRow σ p0 p1)) (k0 : okRow (σ 27 31) (σ 42) p0 p1 → ¬ σ 27 31 < 8 → Pr 0 (va_up σ 27 (va_up (σ 27) 0 0))) (kt : ¬ okRow (σ 27 31) (σ 42) p0 p1 → Pr 0 (va_up σ 27 (va_up (σ 27) 0 1))) : wp_M_row nn σ p0 p1 Pr := by
  have hg : okRow (σ 27 31) (σ 42) p0 p1 → jn_M_row_50 nn p0 p1 σ Pr 0 := by
    rintro hw s1 rfl
    refine ⟨iR_0, fun (h : (0 : Int) < 0) => absurd h (by decide), fun _ => ⟨(⟨by omega, by omega⟩ : iR (σ 27 31)), fun (h : ¬ σ 27 31 = 8) => ⟨(⟨by omega, by omega, by omega⟩ : 0 ≤ σ 27 31 ∧ σ 27 31 < 8 ∧ σ 27 31 < 2147483648), ?_⟩, fun (h : σ 27 31 = 8) => k0 hw (by omega)⟩⟩
    rintro s2 rfl
    refine ⟨(⟨by omega, by omega, by omega⟩ : 0 ≤ σ 27 31 ∧ σ 27 31 < 8 ∧ σ 27 31 < 2147483648), ?_⟩
    rintro s3 rfl s4 rfl
    exact k1 hw (by omega)
  have hn : ¬ okRow (σ 27 31) (σ 42) p0 p1 → jn_M_row_50 nn p0 p1 σ Pr 1 := by
    rintro hw s1 rfl
    exact ⟨(⟨by decide, by decide⟩ : iR 1), fun _ => kt hw, fun (h : ¬ (0 : Int) < 1) => absurd (by decide) h⟩
  refine ex_mA hp0 iR_0 ⟨by decide, by decide⟩ (fun a b => ?_) (fun h => hn (fun q => h q.1))
  refine ⟨⟨by omega, by omega⟩, fun h => ?_, fun h => ⟨⟨by omega, by omega, by omega⟩, hp0, hb _, fun h2 => hn (fun q => q.2.1.elim h (fun q => by omega)), fun h2 => ?_⟩⟩
  · exact ex_mA hp1 ⟨by decide, by decide⟩ ⟨by decide, by decide⟩ (fun c e => hg ⟨⟨a, b⟩, Or.inl h, c, e⟩) (fun h => hn (fun q => h q.2.2))
  · exact ex_mA hp1 ⟨by decide, by decide⟩ ⟨by decide, by decide⟩ (fun c e => hg ⟨⟨a, b⟩, Or.inr (by omega), c, e⟩) (fun h => hn (fun q => h q.2.2))
theorem r_row {n d N : Int} {nn : Nat → Nat} {xs : Nat → Int32} (i : Int) (σ : kM) (h : Rel n d N σ) : wl_15 nn xs i σ (Rel n d N) := by
  have hR := h
  obtain ⟨hG, hC, hQ, hA, hM, hB, hF, hL, hP, hc, h0, h8, hr, ha, hj⟩ := h
  have hp0 := xI_in xs (i + 1)
  have hp1 := xI_in xs (i + 2)
  have hb : ∀ j, iR (σ 24 j) := fun j => ⟨by have := hj j; omega, by have := hj j; omega⟩
  unfold wl_15
  generalize xI xs (i + 1) = p0 at hp0 ⊢
  generalize xI xs (i + 2) = p1 at hp1 ⊢
  have em : okRow (σ 27 31) (σ 42) p0 p1 ↔ okRow (σ 7 2) (σ 24) p0 p1 := by rw [hc, hr]
  by_cases hw : okRow (σ 7 2) (σ 24) p0 p1
  · by_cases hf : σ 7 2 < 8
    · refine ⟨fun r s => r = 0 ∧ s = va_up (sRow σ p0 p1) 26 (va_up (σ 26) 0 1), Or.inl ⟨fun r s => r = 1 ∧ s = sRow σ p0 p1, p_row ⟨h0, h8⟩ hb hp0 hp1 hw (fun _ => ⟨rfl, rfl⟩) (fun h => absurd hf h), ?_⟩, ?_⟩
      · rintro r s ⟨rfl, rfl⟩
        exact ⟨⟨by decide, by decide⟩, fun h => absurd h (by decide), fun _ s2 hs => ⟨rfl, hs⟩⟩
      · rintro r1 s1 ⟨rfl, rfl⟩
        refine ⟨fun r s => r = 1 ∧ s = mRow (va_up (sRow σ p0 p1) 26 (va_up (σ 26) 0 1)) p0 p1, m_row (σ := va_up (sRow σ p0 p1) 26 (va_up (σ 26) 0 1)) (by show 0 ≤ σ 27 31 ∧ σ 27 31 ≤ 8; omega) (fun j => by show iR (σ 42 j); rw [hr]; exact hb j) hp0 hp1 (fun _ _ => ⟨rfl, rfl⟩) (fun _ hn => absurd (show σ 27 31 < 8 by omega) hn) (fun hn => absurd (em.mpr hw) hn), ?_⟩
        rintro r2 s2 ⟨rfl, rfl⟩
        refine cmpZ (J := fun s v => jn_law15_1186 nn (Rel n d N) s v) (fun v hv e k => cmpL hv e k) rfl (Or.inr rfl) rfl ?_
        refine ⟨hG, hC, hQ, hA, hM, hB, hF, hL, hP, ?_⟩
        refine ⟨show σ 27 31 + 1 = σ 7 2 + 1 by omega, show 0 ≤ σ 7 2 + 1 by omega, show σ 7 2 + 1 ≤ 8 by omega, ?_, ?_, ?_⟩
        · show va_up (σ 42) (σ 27 31).toNat p0 = va_up (σ 24) (σ 7 2).toNat p0; rw [hr, hc]
        · show va_up (σ 43) (σ 27 31).toNat p1 = va_up (σ 25) (σ 7 2).toNat p1; rw [ha, hc]
        · intro j
          show 0 ≤ va_up (σ 24) (σ 7 2).toNat p0 j ∧ va_up (σ 24) (σ 7 2).toNat p0 j ≤ 1000 ∧ -100 ≤ va_up (σ 25) (σ 7 2).toNat p1 j ∧ va_up (σ 25) (σ 7 2).toNat p1 j ≤ 100
          by_cases hj2 : j = (σ 7 2).toNat
          · subst hj2; rw [up_same, up_same]; exact ⟨hw.1.1, hw.1.2, hw.2.2.1, hw.2.2.2⟩
          · rw [up_ne _ _ hj2, up_ne _ _ hj2]; exact hj j
    · refine ⟨fun r s => r = 0 ∧ s = va_up σ 26 (va_up (σ 26) 0 0), Or.inl ⟨fun r s => r = 0 ∧ s = σ, p_row ⟨h0, h8⟩ hb hp0 hp1 hw (fun h => absurd h hf) (fun _ => ⟨rfl, rfl⟩), ?_⟩, ?_⟩
      · rintro r s ⟨rfl, rfl⟩
        exact ⟨iR_0, fun _ s2 hs => ⟨rfl, hs⟩, fun h => absurd rfl h⟩
      · rintro r1 s1 ⟨rfl, rfl⟩
        refine ⟨fun r s => r = 0 ∧ s = _, m_row (σ := va_up σ 26 (va_up (σ 26) 0 0)) (by show 0 ≤ σ 27 31 ∧ σ 27 31 ≤ 8; omega) (fun j => by show iR (σ 42 j); rw [hr]; exact hb j) hp0 hp1 (fun _ hn => absurd (show σ 27 31 < 8 from hn) (by omega)) (fun _ _ => ⟨rfl, rfl⟩) (fun hn => absurd (em.mpr hw) hn), ?_⟩
        rintro r2 s2 ⟨rfl, rfl⟩
        exact cmpZ (J := fun s v => jn_law15_1186 nn (Rel n d N) s v) (fun v hv e k => cmpL hv e k) rfl (Or.inl rfl) rfl hR.out.thr
  · refine ⟨fun r s => r = 1 ∧ s = σ, Or.inr ⟨fun k => k = 1, t_row ⟨h0, h8⟩ hb hp0 hp1 hw rfl, fun k hk => ⟨hk, rfl, rfl⟩⟩, ?_⟩
    rintro r1 s1 ⟨rfl, rfl⟩
    refine ⟨fun r s => s = va_up s1 27 (va_up (s1 27) 0 1), m_row (by omega) (fun j => by rw [hr]; exact hb j) hp0 hp1 (fun hn _ => absurd (em.mp hn) hw) (fun hn _ => absurd (em.mp hn) hw) (fun _ => rfl), ?_⟩
    rintro r2 s2 rfl
    exact cmpT rfl (Or.inl rfl) hR.thr
