/-! shrink, at, clipped, bars -/
def okShr (c p0 : Int) (p1 p2 : Int) : Prop := (0 ≤ p0 ∧ p0 ≤ c - 1) ∧ (1 ≤ p2 ∧ p2 ≤ 1000) ∧ (0 ≤ p1 ∧ p1 ≤ p2)
theorem ex_lhA {nn : Nat → Nat} {σ : kM} {a : Int} {A B : Prop} (ha : iR a) (hc : iR (σ 5 3 - 1)) (h1 : 0 ≤ a → a ≤ σ 5 3 - 1 → B) (h0 : ¬ (0 ≤ a ∧ a ≤ σ 5 3 - 1) → A) : ∃ P : Int → Prop, wp_L_has nn σ a P ∧ ∀ r : Int, P r → iR r ∧ ((r = 0 → A) ∧ (¬ r = 0 → B)) := by
  refine ⟨fun r => (r = 0 ∧ A) ∨ (r = 1 ∧ B), ⟨fun r => (r = 0 ∧ A) ∨ (r = 1 ∧ B), ⟨ha, iR_0, fun h => Or.inl ⟨rfl, h0 (by omega)⟩, fun h => ⟨ha, hc, fun h2 => Or.inl ⟨rfl, h0 (by omega)⟩, fun h2 => Or.inr ⟨rfl, h1 (by omega) (by omega)⟩⟩⟩, ?_⟩, ?_⟩
  · rintro r (⟨rfl, h⟩ | ⟨rfl, h⟩)
    · exact ⟨Or.inl rfl, Or.inl ⟨rfl, h⟩⟩
    · exact ⟨Or.inr rfl, Or.inr ⟨rfl, h⟩⟩
  · rintro r (⟨rfl, h⟩ | ⟨rfl, h⟩)
    · exact ⟨⟨by decide, by decide⟩, fun _ => h, fun h => absurd rfl h⟩
    · exact ⟨⟨by decide, by decide⟩, fun h => absurd h (by decide), fun _ => h⟩
theorem ex_lhB {nn : Nat → Nat} {σ : kM} {a : Int} {A B : Prop} (ha : iR a) (hc : iR (σ 5 3 - 1)) (h1 : 0 ≤ a → a ≤ σ 5 3 - 1 → B) (h0 : ¬ (0 ≤ a ∧ a ≤ σ 5 3 - 1) → A) : ∃ P : Int → Prop, wp_L_has nn σ a P ∧ ∀ r : Int, P r → iR r ∧ ((¬ r = 0 → B) ∧ (r = 0 → A)) := by
  obtain ⟨P, h, k⟩ := ex_lhA (nn := nn) ha hc h1 h0
  exact ⟨P, h, fun r hr => ⟨(k r hr).1, (k r hr).2.2, (k r hr).2.1⟩⟩
theorem shr_in {w a b : Int} (hw : 0 ≤ w ∧ w ≤ 500) (ha : 0 ≤ a ∧ a ≤ b) (hb : 1 ≤ b ∧ b ≤ 1000) : (iR (w * a) ∧ iR b ∧ 0 ≤ w * a ∧ 0 < b) ∧ iR (w * a / b) := by
  have h1 : 0 ≤ w * a := Int.mul_nonneg hw.1 ha.1
  have h2 : w * a ≤ 500 * 1000 := Int.mul_le_mul hw.2 (by omega) ha.1 (by decide)
  have h3 : 0 ≤ w * a / b := Int.ediv_nonneg h1 (by omega)
  have h4 : w * a / b ≤ w * a := Int.ediv_le_self b h1
  exact ⟨⟨⟨by omega, by omega⟩, ⟨by omega, by omega⟩, h1, by omega⟩, by omega, by omega⟩
theorem m_shr {nn : Nat → Nat} {σ : kM} {p0 p1 p2 : Int} {Pr : Int → kM → Prop} (hc : 0 ≤ σ 27 20 ∧ σ 27 20 ≤ 6) (hw : ∀ j, 0 ≤ σ 34 j ∧ σ 34 j ≤ 500) (hp0 : iR p0) (hp1 : iR p1) (hp2 : iR p2) (k0 : okShr (σ 27 20) p0 p1 p2 → Pr (σ 34 p0.toNat * p1 / p2) (va_up σ 27 (va_up (σ 27) 0 0))) (k1 : ¬ (0 ≤ p0 ∧ p0 ≤ σ 27 20 - 1) → Pr 0 (va_up σ 27 (va_up (σ 27) 0 1))) (k2 : (0 ≤ p0 ∧ p0 ≤ σ 27 20 - 1) → ¬ okShr (σ 27 20) p0 p1 p2 → Pr 0 (va_up σ 27 (va_up (σ 27) 0 2))) : wp_M_shrink nn σ p0 p1 p2 Pr := by
  have hn : ∀ v : Int, v = 1 ∨ v = 2 → Pr 0 (va_up σ 27 (va_up (σ 27) 0 v)) → jn_M_shrink_44 nn p0 p1 p2 σ Pr v := by
    rintro v hv k s1 rfl
    exact ⟨(⟨by omega, by omega⟩ : iR v), fun (h : v ≤ 0) => by omega, fun _ => k⟩
  refine ex_mB hp0 iR_0 ⟨by omega, by omega⟩ (fun a b => ex_mA hp2 ⟨by decide, by decide⟩ ⟨by decide, by decide⟩ (fun c e => ex_mA hp1 iR_0 hp2 (fun f g => ?_) (fun h => hn 2 (Or.inr rfl) (k2 ⟨a, b⟩ (fun q => h q.2.2)))) (fun h => hn 2 (Or.inr rfl) (k2 ⟨a, b⟩ (fun q => h q.2.1)))) (fun h => hn 1 (Or.inl rfl) (k1 h))
  rintro s1 rfl
  exact ⟨iR_0, fun _ => ⟨⟨a, by omega, by omega⟩, (shr_in (hw p0.toNat) ⟨f, g⟩ ⟨c, e⟩).1, k0 ⟨⟨a, b⟩, ⟨c, e⟩, f, g⟩⟩, fun h => absurd (Int.le_refl 0) h⟩
theorem r_shrink {n d N : Int} {nn : Nat → Nat} {xs : Nat → Int32} (i : Int) (σ : kM) (h : Rel n d N σ) : wl_14 nn xs i σ (Rel n d N) := by
  have hR := h
  obtain ⟨hG, hC, hQ, hA, hM, hB, hF, ⟨hc, h0, h8, hw1, hw2, hw3, hj, hj1⟩, hP, hK⟩ := h
  have hp0 := xI_in xs (i + 1)
  have hp1 := xI_in xs (i + 2)
  have hp2 := xI_in xs (i + 3)
  unfold wl_14
  generalize xI xs (i + 1) = p0 at hp0 ⊢
  generalize xI xs (i + 2) = p1 at hp1 ⊢
  generalize xI xs (i + 3) = p2 at hp2 ⊢
  have hic : iR (σ 5 3 - 1) := ⟨by omega, by omega⟩
  have hwm : ∀ j, 0 ≤ σ 34 j ∧ σ 34 j ≤ 500 := fun j => by rw [hw1]; exact ⟨(hj j).1, (hj j).2.1⟩
  have hwc : ∀ j, 0 ≤ σ 16 j ∧ σ 16 j ≤ 500 := fun j => ⟨(hj j).1, (hj j).2.1⟩
  by_cases ho : 0 ≤ p0 ∧ p0 ≤ σ 5 3 - 1
  · by_cases hw : okShr (σ 5 3) p0 p1 p2
    · have hs := shr_in (hwc p0.toNat) hw.2.2 hw.2.1
      refine ⟨fun r s => r = 0 ∧ s = va_up σ 26 (va_up (σ 26) 0 (σ 16 p0.toNat * p1 / p2)), Or.inl ⟨fun r s => r = σ 16 p0.toNat * p1 / p2 ∧ s = σ, ex_lhB hp0 hic (fun _ _ => ex_wA hp2 ⟨by decide, by decide⟩ ⟨by decide, by decide⟩ (fun _ _ => ex_wB hp1 iR_0 hp2 (fun _ _ => ⟨fun r => r = σ 16 p0.toNat, ⟨⟨ho.1, by omega, by omega⟩, rfl⟩, ?_⟩) (fun h => absurd hw.2.2 h)) (fun h => absurd hw.2.1 h)) (fun h => absurd ho h), ?_⟩, ?_⟩
      · rintro r rfl
        exact ⟨hs.1, rfl, rfl⟩
      · rintro r s ⟨rfl, rfl⟩
        exact ⟨hs.2, fun s2 hs => ⟨rfl, hs⟩⟩
      · rintro r1 s1 ⟨rfl, rfl⟩
        refine ⟨fun r s => r = σ 16 p0.toNat * p1 / p2 ∧ s = va_up (va_up σ 26 (va_up (σ 26) 0 (σ 16 p0.toNat * p1 / p2))) 27 (va_up (σ 27) 0 0), m_shr (σ := va_up σ 26 (va_up (σ 26) 0 (σ 16 p0.toNat * p1 / p2))) (by show 0 ≤ σ 27 20 ∧ σ 27 20 ≤ 6; omega) hwm hp0 hp1 hp2 (fun _ => ⟨by show σ 34 p0.toNat * p1 / p2 = _; rw [hw1], rfl⟩) (fun hn => absurd (show 0 ≤ p0 ∧ p0 ≤ σ 27 20 - 1 by omega) hn) (fun _ hn => absurd (show okShr (σ 27 20) p0 p1 p2 by rw [hc]; exact hw) hn), ?_⟩
        rintro r2 s2 ⟨rfl, rfl⟩
        exact cmpN rfl hs.2 rfl hR.out.thr
    · refine ⟨fun r s => r = 2 ∧ s = σ, Or.inr ⟨fun k => k = 1, ex_lhB hp0 hic (fun a b => ex_wA hp2 ⟨by decide, by decide⟩ ⟨by decide, by decide⟩ (fun c e => ex_wB hp1 iR_0 hp2 (fun f g => absurd ⟨⟨a, b⟩, ⟨c, e⟩, f, g⟩ hw) (fun h => rfl)) (fun h => rfl)) (fun h => absurd ho h), fun k hk => Or.inr ⟨hk, rfl, rfl⟩⟩, ?_⟩
      rintro r1 s1 ⟨rfl, rfl⟩
      refine ⟨fun r s => s = va_up s1 27 (va_up (s1 27) 0 2), m_shr (by omega) hwm hp0 hp1 hp2 (fun hn => absurd (hc ▸ hn) hw) (fun hn => absurd (by omega) hn) (fun _ _ => rfl), ?_⟩
      rintro r2 s2 rfl
      exact cmpT rfl (Or.inr rfl) hR.thr
  · refine ⟨fun r s => r = 1 ∧ s = σ, Or.inr ⟨fun k => k = 0, ex_lhB hp0 hic (fun a b => absurd ⟨a, b⟩ ho) (fun _ => rfl), fun k hk => Or.inl ⟨hk, rfl, rfl⟩⟩, ?_⟩
    rintro r1 s1 ⟨rfl, rfl⟩
    refine ⟨fun r s => s = va_up s1 27 (va_up (s1 27) 0 1), m_shr (by omega) hwm hp0 hp1 hp2 (fun hn => absurd (hc ▸ hn.1) ho) (fun _ => rfl) (fun hn => absurd (hc ▸ hn) ho), ?_⟩
    rintro r2 s2 rfl
    exact cmpT rfl (Or.inl rfl) hR.thr
/-! bars -/
theorem bitsF : ∀ b : Fin 16, ∀ k : Fin 4, (kAnd (kShr (b.val : Int) (k.val : Int)) 1 = 1 ↔ ¬ kAnd (b.val : Int) (kShl 1 (k.val : Int)) = 0) ∧ 0 ≤ kXor (b.val : Int) (kShl 1 (k.val : Int)) ∧ kXor (b.val : Int) (kShl 1 (k.val : Int)) ≤ 15 := by decide +kernel
theorem bitsI {b k : Int} (hb : 0 ≤ b ∧ b ≤ 15) (hk : 0 ≤ k ∧ k ≤ 3) : (kAnd (kShr b k) 1 = 1 ↔ ¬ kAnd b (kShl 1 k) = 0) ∧ 0 ≤ kXor b (kShl 1 k) ∧ kXor b (kShl 1 k) ≤ 15 := by
  have h := bitsF ⟨b.toNat, by omega⟩ ⟨k.toNat, by omega⟩
  rw [show ((b.toNat : Nat) : Int) = b by omega, show ((k.toNat : Nat) : Int) = k by omega] at h
  exact h
theorem kA_in (a b : Int) : iR (kAnd a b) := iR_toInt _
def okBar (c p0 p1 : Int) : Prop := (0 ≤ p0 ∧ p0 ≤ c - 1) ∧ (0 ≤ p1 ∧ p1 ≤ 3)
/-- whether leaf p0 bars kind p1 otherwise than p2 says -/
def chB (b p1 p2 : Int) : Prop := ¬ ((¬ kAnd b (kShl 1 p1) = 0 ∧ p2 = 1) ∨ (kAnd b (kShl 1 p1) = 0 ∧ p2 = 0))
def sBar (σ : kM) (p0 p1 : Int) : kM := va_up (va_up σ 18 (va_up (σ 18) p0.toNat (kXor (σ 18 p0.toNat) (kShl 1 p1)))) 6 (va_up (σ 6) 5 0)
def mBar (σ : kM) (p0 : Int) (v c : Int) : kM := va_up (va_up (va_up σ 27 (va_up (σ 27) 0 0)) 36 (va_up (σ 36) p0.toNat v)) 27 (va_up (va_up (σ 27) 0 0) 21 c)
theorem p_bars {nn : Nat → Nat} {σ : kM} {p0 p1 p2 : Int} {Pr : Int → kM → Prop} {Px : Nat → kM → Prop} (hc : 0 ≤ σ 5 3 ∧ σ 5 3 ≤ 6) (hp0 : iR p0) (hp1 : iR p1) (hp2 : p2 = 0 ∨ p2 = 1) (hw : okBar (σ 5 3) p0 p1) (k1 : chB (σ 18 p0.toNat) p1 p2 → Pr 1 (sBar σ p0 p1)) (k0 : ¬ chB (σ 18 p0.toNat) p1 p2 → Pr 0 σ) : wp_P_bars nn σ p0 p1 p2 Pr Px := by
  refine ex_lhA hp0 ⟨by omega, by omega⟩ (fun a b => ex_kA hp1 (fun c e => ?_) (fun h => absurd hw.2 h)) (fun h => absurd hw.1 h)
  have hin : 0 ≤ p0 ∧ p0 < 6 ∧ p0 < 2147483648 := by omega
  have hr2 : iR p2 := ⟨by omega, by omega⟩
  refine ⟨fun r s => (r = 1 ∧ chB (σ 18 p0.toNat) p1 p2 ∧ s = va_up σ 18 (va_up (σ 18) p0.toNat (kXor (σ 18 p0.toNat) (kShl 1 p1)))) ∨ (r = 0 ∧ ¬ chB (σ 18 p0.toNat) p1 p2 ∧ s = σ), ⟨fun r => (r = 0 ∧ kAnd (σ 18 p0.toNat) (kShl 1 p1) = 0) ∨ (r = 1 ∧ ¬ kAnd (σ 18 p0.toNat) (kShl 1 p1) = 0), ⟨hin, kA_in _ _, fun h => Or.inl ⟨rfl, h⟩, fun h => Or.inr ⟨rfl, h⟩⟩, ?_⟩, ?_⟩
  · have j1 : chB (σ 18 p0.toNat) p1 p2 → ∀ Pr : Int → kM → Prop, (∀ s, s = va_up σ 18 (va_up (σ 18) p0.toNat (kXor (σ 18 p0.toNat) (kShl 1 p1))) → Pr 1 s) → jn_L_tellBar_17 nn p0 p1 σ Pr 1 := fun _ Pr k => ⟨⟨by decide, by decide⟩, fun h => absurd h (by decide), fun _ => ⟨hin, hin, fun s hs => ⟨Or.inr rfl, k s hs⟩⟩⟩
    have j0 : ∀ Pr : Int → kM → Prop, Pr 0 σ → jn_L_tellBar_17 nn p0 p1 σ Pr 0 := fun Pr k => ⟨iR_0, fun _ => ⟨Or.inl rfl, k⟩, fun h => absurd rfl h⟩
    rintro r (⟨rfl, h⟩ | ⟨rfl, h⟩)
    · refine ⟨iR_0, hr2, fun e => ?_, fun e => ?_⟩
      · have hch : ¬ chB (σ 18 p0.toNat) p1 p2 := fun q => q (Or.inr ⟨h, e.symm⟩)
        exact j0 _ (Or.inr ⟨rfl, hch, rfl⟩)
      · have hch : chB (σ 18 p0.toNat) p1 p2 := fun q => q.elim (fun q => q.1 h) (fun q => e q.2.symm)
        exact j1 hch _ (fun s hs => Or.inl ⟨rfl, hch, hs⟩)
    · refine ⟨⟨by decide, by decide⟩, hr2, fun e => ?_, fun e => ?_⟩
      · have hch : ¬ chB (σ 18 p0.toNat) p1 p2 := fun q => q (Or.inl ⟨h, e.symm⟩)
        exact j0 _ (Or.inr ⟨rfl, hch, rfl⟩)
      · have hch : chB (σ 18 p0.toNat) p1 p2 := fun q => q.elim (fun q => e q.2.symm) (fun q => h q.1)
        exact j1 hch _ (fun s hs => Or.inl ⟨rfl, hch, hs⟩)
  · rintro r s (⟨rfl, h, rfl⟩ | ⟨rfl, h, rfl⟩)
    · refine ⟨⟨by decide, by decide⟩, fun h => absurd h (by decide), fun _ => ⟨fun s => s = _, fun s hs => hs, ?_⟩⟩
      rintro s2 rfl
      exact ⟨Or.inr rfl, k1 h⟩
    · exact ⟨iR_0, fun _ => ⟨Or.inl rfl, k0 h⟩, fun h => absurd rfl h⟩
theorem t_bars {nn : Nat → Nat} {σ : kM} {p0 p1 p2 : Int} {Px : Nat → Prop} (hc : 0 ≤ σ 5 3 ∧ σ 5 3 ≤ 6) (hp0 : iR p0) (hp1 : iR p1) (hw : ¬ okBar (σ 5 3) p0 p1) (k : Px 0) : wt_P_bars nn σ p0 p1 p2 Px :=
  ex_lhA hp0 ⟨by omega, by omega⟩ (fun a b => ex_kA hp1 (fun c e => hw ⟨⟨a, b⟩, c, e⟩) (fun _ => k)) (fun _ => k)
theorem m_bars {nn : Nat → Nat} {σ : kM} {p0 p1 p2 : Int} {Pr : Int → kM → Prop} (hc : 0 ≤ σ 27 20 ∧ σ 27 20 ≤ 6) (hb : ∀ j, 0 ≤ σ 36 j ∧ σ 36 j ≤ 15) (h21 : σ 27 21 = 0 ∨ σ 27 21 = 1) (hp0 : iR p0) (hp1 : iR p1) (hp2 : p2 = 0 ∨ p2 = 1) (k1 : okBar (σ 27 20) p0 p1 → chB (σ 36 p0.toNat) p1 p2 → Pr 1 (mBar σ p0 (kXor (σ 36 p0.toNat) (kShl 1 p1)) 0)) (k0 : okBar (σ 27 20) p0 p1 → ¬ chB (σ 36 p0.toNat) p1 p2 → Pr 0 (mBar σ p0 (σ 36 p0.toNat) (σ 27 21))) (kt : ¬ okBar (σ 27 20) p0 p1 → Pr 0 (va_up σ 27 (va_up (σ 27) 0 1))) : wp_M_bars nn σ p0 p1 p2 Pr := by
  have hn : Pr 0 (va_up σ 27 (va_up (σ 27) 0 1)) → jn_M_bars_29 nn p0 p1 p2 σ Pr 1 := by
    rintro k s1 rfl
    exact ⟨(⟨by decide, by decide⟩ : iR 1), fun (h : (1 : Int) ≤ 0) => absurd h (by decide), fun _ => k⟩
  refine ex_mA hp0 iR_0 ⟨by omega, by omega⟩ (fun a b => ex_mA hp1 iR_0 ⟨by decide, by decide⟩ (fun c e => ?_) (fun h => hn (kt (fun q => h q.2)))) (fun h => hn (kt (fun q => h q.1)))
  have hw : okBar (σ 27 20) p0 p1 := ⟨⟨a, b⟩, c, e⟩
  have hin : 0 ≤ p0 ∧ p0 < 6 ∧ p0 < 2147483648 := by omega
  have hr2 : iR p2 := ⟨by omega, by omega⟩
  have hbit := (bitsI (hb p0.toNat) ⟨c, e⟩).1
  rintro s1 rfl
  have e1 : chB (σ 36 p0.toNat) p1 p2 → jn_M_bars_69 nn p0 p1 Pr (va_up σ 27 (va_up (σ 27) 0 0)) 1 := by
    intro hch
    refine ⟨⟨by decide, by decide⟩, fun h => absurd h (by decide), fun _ => ⟨hin, hin, ?_⟩⟩
    rintro s2 rfl
    refine ⟨(⟨by omega, by omega⟩ : iR (σ 27 21)), fun _ => ?_, fun _ => ⟨⟨by decide, by decide⟩, fun _ => ?_, fun h => absurd h (by decide)⟩⟩
    · rintro s3 rfl
      exact ⟨Or.inr rfl, k1 hw hch⟩
    · rintro s3 rfl
      exact ⟨Or.inr rfl, k1 hw hch⟩
  have e0 : ¬ chB (σ 36 p0.toNat) p1 p2 → jn_M_bars_69 nn p0 p1 Pr (va_up σ 27 (va_up (σ 27) 0 0)) 0 := by
    intro hch
    have k0 := k0 hw hch
    refine ⟨iR_0, fun _ => ⟨hin, hin, ?_⟩, fun h => absurd rfl h⟩
    rintro s2 rfl
    refine ⟨(⟨by omega, by omega⟩ : iR (σ 27 21)), fun (h : σ 27 21 = 0) => ?_, fun (h : ¬ σ 27 21 = 0) => ⟨iR_0, fun h => absurd rfl h, fun _ => ?_⟩⟩
    · rintro s3 rfl
      rw [h] at k0
      exact ⟨Or.inl rfl, k0⟩
    · rintro s3 rfl
      rw [show σ 27 21 = 1 by omega] at k0
      exact ⟨Or.inl rfl, k0⟩
  refine ⟨iR_0, fun _ => ⟨hin, kA_in _ _, fun (h : ¬ kAnd (kShr (σ 36 p0.toNat) p1) 1 = 1) => ⟨iR_0, hr2, fun q => e0 (fun z => z (Or.inr ⟨?_, q.symm⟩)), fun q => e1 (fun z => z.elim (fun z => ?_) (fun z => q z.2.symm))⟩, fun (h : kAnd (kShr (σ 36 p0.toNat) p1) 1 = 1) => ⟨⟨by decide, by decide⟩, hr2, fun q => e0 (fun z => z (Or.inl ⟨hbit.mp h, q.symm⟩)), fun q => e1 (fun z => z.elim (fun z => q z.2.symm) (fun z => hbit.mp h z.1))⟩⟩, fun h => absurd (Int.le_refl 0) h⟩
  · exact Decidable.byContradiction (fun q => h (hbit.mpr q))
  · exact h (hbit.mpr z.1)
theorem r_bars {n d N : Int} {nn : Nat → Nat} {xs : Nat → Int32} (i : Int) (σ : kM) (h : Rel n d N σ) : wl_10 nn xs i σ (Rel n d N) := by
  have hR := h
  obtain ⟨hG, hC, hQ, hA, hM, hB, hF, ⟨hc, h0, h8, hw1, hw2, hw3, hj, hj1⟩, ⟨hP1, hP2, hP3⟩, hK⟩ := h
  have hp0 := xI_in xs (i + 1)
  have hp1 := xI_in xs (i + 2)
  have key : ∀ p2 : Int, p2 = 0 ∨ p2 = 1 → ((xI xs (i + 3) = 0 ∧ p2 = 0) ∨ (¬ xI xs (i + 3) = 0 ∧ p2 = 1)) → jn_law10_784 nn σ xs i (Rel n d N) p2 := by
    intro p2 hp2 he
    have h3 := xI_in xs (i + 3)
    have hjn : ∀ r1 s1, jn_law10_817 nn xs i (Rel n d N) r1 s1 p2 → iR (xI xs (i + 3)) ∧ ((xI xs (i + 3) = 0 → jn_law10_817 nn xs i (Rel n d N) r1 s1 0) ∧ (¬ xI xs (i + 3) = 0 → jn_law10_817 nn xs i (Rel n d N) r1 s1 1)) := by
      intro r1 s1 hh
      refine ⟨h3, fun q => ?_, fun q => ?_⟩
      · rw [show p2 = 0 by omega] at hh; exact hh
      · rw [show p2 = 1 by omega] at hh; exact hh
    have suff : (∃ P1 : Int → kM → Prop, wp_W_bars nn σ (xI xs (i + 1)) (xI xs (i + 2)) p2 P1 ∧ ∀ (r1 : Int) (s1 : kM), P1 r1 s1 → jn_law10_817 nn xs i (Rel n d N) r1 s1 p2) → jn_law10_784 nn σ xs i (Rel n d N) p2 := fun ⟨P, a, b⟩ => ⟨P, a, fun r1 s1 q => hjn r1 s1 (b r1 s1 q)⟩
    refine suff ?_
    unfold jn_law10_817
    generalize xI xs (i + 1) = p0 at hp0 ⊢
    generalize xI xs (i + 2) = p1 at hp1 ⊢
    have hbm : ∀ j, 0 ≤ σ 36 j ∧ σ 36 j ≤ 15 := fun j => by rw [hw3]; exact ⟨(hj j).2.2.2.2.1, (hj j).2.2.2.2.2⟩
    by_cases hw : okBar (σ 5 3) p0 p1
    · by_cases hch : chB (σ 18 p0.toNat) p1 p2
      · refine ⟨fun r s => r = 0 ∧ s = va_up (sBar σ p0 p1) 26 (va_up (σ 26) 0 1), Or.inl ⟨fun r s => r = 1 ∧ s = sBar σ p0 p1, p_bars ⟨h0, h8⟩ hp0 hp1 hp2 hw (fun _ => ⟨rfl, rfl⟩) (fun h => absurd hch h), ?_⟩, ?_⟩
        · rintro r s ⟨rfl, rfl⟩
          exact ⟨⟨by decide, by decide⟩, fun h => absurd h (by decide), fun _ s2 hs => ⟨rfl, hs⟩⟩
        · rintro r1 s1 ⟨rfl, rfl⟩
          refine ⟨fun r s => r = 1 ∧ s = mBar (va_up (sBar σ p0 p1) 26 (va_up (σ 26) 0 1)) p0 (kXor (σ 36 p0.toNat) (kShl 1 p1)) 0, m_bars (σ := va_up (sBar σ p0 p1) 26 (va_up (σ 26) 0 1)) (by show 0 ≤ σ 27 20 ∧ σ 27 20 ≤ 6; omega) hbm (by show σ 27 21 = 0 ∨ σ 27 21 = 1; omega) hp0 hp1 hp2 (fun _ _ => ⟨rfl, rfl⟩) (fun _ hn => absurd (show chB (σ 36 p0.toNat) p1 p2 by rw [hw3]; exact hch) hn) (fun hn => absurd (show okBar (σ 27 20) p0 p1 by rw [hc]; exact hw) hn), ?_⟩
          rintro r2 s2 ⟨rfl, rfl⟩
          refine cmpZ (J := fun s v => jn_law10_851 nn (Rel n d N) s v) (fun v hv e k => cmpL hv e k) rfl (Or.inr rfl) rfl ?_
          refine ⟨hG, hC, hQ, hA, hM, hB, hF, ⟨hc, h0, h8, hw1, hw2, ?_, ?_, hj1⟩, ⟨rfl, Or.inl rfl, fun (h : (0 : Int) = 1) => absurd h (by decide)⟩, hK⟩
          · show va_up (σ 36) p0.toNat (kXor (σ 36 p0.toNat) (kShl 1 p1)) = va_up (σ 18) p0.toNat (kXor (σ 18 p0.toNat) (kShl 1 p1)); rw [hw3]
          · intro j
            show 0 ≤ σ 16 j ∧ σ 16 j ≤ 500 ∧ 0 ≤ σ 17 j ∧ σ 17 j ≤ 1000000 ∧ 0 ≤ va_up (σ 18) p0.toNat (kXor (σ 18 p0.toNat) (kShl 1 p1)) j ∧ va_up (σ 18) p0.toNat (kXor (σ 18 p0.toNat) (kShl 1 p1)) j ≤ 15
            have hjj := hj j
            by_cases hj2 : j = p0.toNat
            · subst hj2; rw [up_same]; exact ⟨hjj.1, hjj.2.1, hjj.2.2.1, hjj.2.2.2.1, (bitsI hjj.2.2.2.2 hw.2).2⟩
            · rw [up_ne _ _ hj2]; exact hjj
      · refine ⟨fun r s => r = 0 ∧ s = va_up σ 26 (va_up (σ 26) 0 0), Or.inl ⟨fun r s => r = 0 ∧ s = σ, p_bars ⟨h0, h8⟩ hp0 hp1 hp2 hw (fun h => absurd h hch) (fun _ => ⟨rfl, rfl⟩), ?_⟩, ?_⟩
        · rintro r s ⟨rfl, rfl⟩
          exact ⟨iR_0, fun _ s2 hs => ⟨rfl, hs⟩, fun h => absurd rfl h⟩
        · rintro r1 s1 ⟨rfl, rfl⟩
          refine ⟨fun r s => r = 0 ∧ s = mBar (va_up σ 26 (va_up (σ 26) 0 0)) p0 (σ 36 p0.toNat) (σ 27 21), m_bars (σ := va_up σ 26 (va_up (σ 26) 0 0)) (by show 0 ≤ σ 27 20 ∧ σ 27 20 ≤ 6; omega) hbm (by show σ 27 21 = 0 ∨ σ 27 21 = 1; omega) hp0 hp1 hp2 (fun _ hn => absurd (show chB (σ 18 p0.toNat) p1 p2 by rw [← hw3]; exact hn) hch) (fun _ _ => ⟨rfl, rfl⟩) (fun hn => absurd (show okBar (σ 27 20) p0 p1 by rw [hc]; exact hw) hn), ?_⟩
          rintro r2 s2 ⟨rfl, rfl⟩
          refine cmpZ (J := fun s v => jn_law10_851 nn (Rel n d N) s v) (fun v hv e k => cmpL hv e k) rfl (Or.inl rfl) rfl ?_
          refine ⟨hG, hC, hQ, hA, hM, hB, hF, ⟨hc, h0, h8, hw1, hw2, ?_, hj, hj1⟩, ⟨hP1, hP2, hP3⟩, hK⟩
          show va_up (σ 36) p0.toNat (σ 36 p0.toNat) = σ 18
          rw [← hw3]
          funext j
          by_cases hj2 : j = p0.toNat
          · subst hj2; rw [up_same]
          · rw [up_ne _ _ hj2]
    · refine ⟨fun r s => r = 1 ∧ s = σ, Or.inr ⟨fun k => k = 0, t_bars ⟨h0, h8⟩ hp0 hp1 hw rfl, fun k hk => ⟨hk, rfl, rfl⟩⟩, ?_⟩
      rintro r1 s1 ⟨rfl, rfl⟩
      refine ⟨fun r s => s = va_up s1 27 (va_up (s1 27) 0 1), m_bars (by omega) hbm (by omega) hp0 hp1 hp2 (fun hn => absurd (hc ▸ hn) hw) (fun hn => absurd (hc ▸ hn) hw) (fun _ => rfl), ?_⟩
      rintro r2 s2 rfl
      exact cmpT rfl (Or.inl rfl) hR.thr
  exact ⟨xI_in xs (i + 3), fun q => key 0 (Or.inl rfl) (Or.inl ⟨q, rfl⟩), fun q => key 1 (Or.inr rfl) (Or.inr ⟨q, rfl⟩)⟩
