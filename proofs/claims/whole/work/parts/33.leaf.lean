/-! leaf, fault, shrink -/
def okLeaf (p0 p1 : Int) : Prop := (1 ≤ p0 ∧ p0 ≤ 500) ∧ (0 ≤ p1 ∧ p1 ≤ 1000000)
def sLeaf (σ : kM) (p0 p1 : Int) : kM := va_up (va_up (va_up (va_up σ 6 (va_up (σ 6) 5 0)) 16 (va_up (σ 16) (σ 5 3).toNat p0)) 17 (va_up (σ 17) (σ 5 3).toNat p1)) 5 (va_up (σ 5) 3 (σ 5 3 + 1))
def mLeaf (σ : kM) (p0 p1 : Int) : kM := va_up (va_up (va_up (va_up (va_up σ 27 (va_up (σ 27) 0 0)) 34 (va_up (σ 34) (σ 27 20).toNat p0)) 35 (va_up (σ 35) (σ 27 20).toNat p1)) 27 (va_up (va_up (σ 27) 0 0) 20 (σ 27 20 + 1))) 27 (va_up (va_up (va_up (σ 27) 0 0) 20 (σ 27 20 + 1)) 21 0)
theorem p_leaf {nn : Nat → Nat} {σ : kM} {p0 p1 : Int} {Pr : Int → kM → Prop} {Px : Nat → kM → Prop} (hc : 0 ≤ σ 5 3 ∧ σ 5 3 ≤ 6) (hp0 : iR p0) (hp1 : iR p1) (hw : okLeaf p0 p1) (hf : σ 5 3 < 6) (k1 : Pr (σ 5 3) (sLeaf σ p0 p1)) : wp_P_leaf nn σ p0 p1 Pr Px := by
  refine ex_wA hp0 ⟨by decide, by decide⟩ ⟨by decide, by decide⟩ (fun _ _ => ex_wB hp1 iR_0 ⟨by decide, by decide⟩ (fun _ _ => ?_) (fun h => absurd hw.2 h)) (fun h => absurd hw.1 h)
  refine ⟨fun r => r = 0, ⟨⟨by omega, by omega⟩, fun _ => rfl, fun h => absurd hf h⟩, ?_⟩
  rintro r rfl
  refine ⟨iR_0, fun _ => ⟨fun s => s = _, fun s hs => hs, ?_⟩, fun h => absurd rfl h⟩
  rintro s1 rfl
  refine ⟨Pr, ⟨⟨hc.1, hf, by show σ 5 3 < _; omega⟩, ?_⟩, fun r s h => h⟩
  rintro s1 rfl
  refine ⟨⟨hc.1, hf, by show σ 5 3 < _; omega⟩, ?_⟩
  rintro s2 rfl s3 rfl
  have e : σ 5 3 + 1 - 1 = σ 5 3 := by omega
  show Pr (σ 5 3 + 1 - 1) _
  rw [e]
  exact k1
theorem t_leaf {nn : Nat → Nat} {σ : kM} {p0 p1 : Int} {Px : Nat → Prop} (hc : 0 ≤ σ 5 3 ∧ σ 5 3 ≤ 6) (hp0 : iR p0) (hp1 : iR p1) (k1 : ¬ okLeaf p0 p1 → Px 1) (k2 : okLeaf p0 p1 → Px 2) (hf : okLeaf p0 p1 → ¬ σ 5 3 < 6) : wt_P_leaf nn σ p0 p1 Px := by
  refine ex_wA hp0 ⟨by decide, by decide⟩ ⟨by decide, by decide⟩ (fun a b => ex_wB hp1 iR_0 ⟨by decide, by decide⟩ (fun c d => ?_) (fun h => k1 (fun q => h q.2))) (fun h => k1 (fun q => h q.1))
  refine ⟨fun r => r = 1, ⟨⟨by omega, by omega⟩, fun h => absurd h (hf ⟨⟨a, b⟩, c, d⟩), fun _ => rfl⟩, ?_⟩
  rintro r rfl
  exact ⟨⟨by decide, by decide⟩, fun h => absurd h (by decide), fun _ => k2 ⟨⟨a, b⟩, c, d⟩⟩
theorem m_leaf {nn : Nat → Nat} {σ : kM} {p0 p1 : Int} {Pr : Int → kM → Prop} (hc : 0 ≤ σ 27 20 ∧ σ 27 20 ≤ 6) (hp0 : iR p0) (hp1 : iR p1) (k1 : okLeaf p0 p1 → σ 27 20 < 6 → Pr (σ 27 20) (mLeaf σ p0 p1)) (k2 : okLeaf p0 p1 → ¬ σ 27 20 < 6 → Pr 0 (va_up σ 27 (va_up (σ 27) 0 2))) (kt : ¬ okLeaf p0 p1 → Pr 0 (va_up σ 27 (va_up (σ 27) 0 1))) : wp_M_leaf nn σ p0 p1 Pr := by
  have hg : okLeaf p0 p1 → σ 27 20 < 6 → jn_M_leaf_40 nn p0 p1 σ Pr 0 := by
    rintro hw hf s1 rfl
    refine ⟨iR_0, fun _ => ⟨(⟨by omega, by omega, by omega⟩ : 0 ≤ σ 27 20 ∧ σ 27 20 < 6 ∧ σ 27 20 < 2147483648), ?_⟩, fun h => absurd (Int.le_refl 0) h⟩
    rintro s2 rfl
    refine ⟨(⟨by omega, by omega, by omega⟩ : 0 ≤ σ 27 20 ∧ σ 27 20 < 6 ∧ σ 27 20 < 2147483648), ?_⟩
    rintro s3 rfl s4 rfl s5 rfl
    have e : σ 27 20 + 1 - 1 = σ 27 20 := by omega
    show Pr (σ 27 20 + 1 - 1) _
    rw [e]
    exact k1 hw hf
  have hn : ∀ v : Int, v = 1 ∨ v = 2 → Pr 0 (va_up σ 27 (va_up (σ 27) 0 v)) → jn_M_leaf_40 nn p0 p1 σ Pr v := by
    rintro v hv k s1 rfl
    exact ⟨(⟨by omega, by omega⟩ : iR v), fun (h : v ≤ 0) => by omega, fun _ => k⟩
  refine ex_mA hp0 ⟨by decide, by decide⟩ ⟨by decide, by decide⟩ (fun a b => ex_mB hp1 iR_0 ⟨by decide, by decide⟩ (fun c d => ?_) (fun h => hn 1 (Or.inl rfl) (kt (fun q => h q.2)))) (fun h => hn 1 (Or.inl rfl) (kt (fun q => h q.1)))
  exact ⟨⟨by omega, by omega⟩, fun h => hg ⟨⟨a, b⟩, c, d⟩ (by omega), fun h => hn 2 (Or.inr rfl) (k2 ⟨⟨a, b⟩, c, d⟩ (by omega))⟩
theorem r_leaf {n d N : Int} {nn : Nat → Nat} {xs : Nat → Int32} (i : Int) (σ : kM) (h : Rel n d N σ) : wl_9 nn xs i σ (Rel n d N) := by
  have hR := h
  obtain ⟨hG, hC, hQ, hA, hM, hB, hF, ⟨hc, h0, h8, hw1, hw2, hw3, hj, hj1⟩, hP, hK⟩ := h
  have hp0 := xI_in xs (i + 1)
  have hp1 := xI_in xs (i + 2)
  unfold wl_9
  generalize xI xs (i + 1) = p0 at hp0 ⊢
  generalize xI xs (i + 2) = p1 at hp1 ⊢
  by_cases hw : okLeaf p0 p1
  · by_cases hf : σ 5 3 < 6
    · refine ⟨fun r s => r = 0 ∧ s = va_up (sLeaf σ p0 p1) 26 (va_up (σ 26) 0 (σ 5 3)), Or.inl ⟨fun r s => r = σ 5 3 ∧ s = sLeaf σ p0 p1, p_leaf ⟨h0, h8⟩ hp0 hp1 hw hf ⟨rfl, rfl⟩, ?_⟩, ?_⟩
      · rintro r s ⟨rfl, rfl⟩
        exact ⟨⟨by omega, by omega⟩, fun s2 hs => ⟨rfl, hs⟩⟩
      · rintro r1 s1 ⟨rfl, rfl⟩
        refine ⟨fun r s => r = σ 5 3 ∧ s = mLeaf (va_up (sLeaf σ p0 p1) 26 (va_up (σ 26) 0 (σ 5 3))) p0 p1, m_leaf (σ := va_up (sLeaf σ p0 p1) 26 (va_up (σ 26) 0 (σ 5 3))) (by show 0 ≤ σ 27 20 ∧ σ 27 20 ≤ 6; omega) hp0 hp1 (fun _ _ => ⟨hc, rfl⟩) (fun _ hn => absurd (show σ 27 20 < 6 by omega) hn) (fun hn => absurd hw hn), ?_⟩
        rintro r2 s2 ⟨rfl, rfl⟩
        refine cmpN rfl ⟨by omega, by omega⟩ rfl ?_
        refine ⟨hG, hC, hQ, hA, hM, hB, hF, ?_, ⟨rfl, Or.inl rfl, fun (h : (0 : Int) = 1) => absurd h (by decide)⟩, hK⟩
        refine ⟨show σ 27 20 + 1 = σ 5 3 + 1 by omega, show 0 ≤ σ 5 3 + 1 by omega, show σ 5 3 + 1 ≤ 6 by omega, ?_, ?_, hw3, ?_, ?_⟩
        · show va_up (σ 34) (σ 27 20).toNat p0 = va_up (σ 16) (σ 5 3).toNat p0; rw [hw1, hc]
        · show va_up (σ 35) (σ 27 20).toNat p1 = va_up (σ 17) (σ 5 3).toNat p1; rw [hw2, hc]
        · intro j
          show 0 ≤ va_up (σ 16) (σ 5 3).toNat p0 j ∧ va_up (σ 16) (σ 5 3).toNat p0 j ≤ 500 ∧ 0 ≤ va_up (σ 17) (σ 5 3).toNat p1 j ∧ va_up (σ 17) (σ 5 3).toNat p1 j ≤ 1000000 ∧ 0 ≤ σ 18 j ∧ σ 18 j ≤ 15
          have h2 := hw.1
          have h3 := hj j
          by_cases hj2 : j = (σ 5 3).toNat
          · subst hj2; rw [up_same, up_same]; exact ⟨by omega, by omega, hw.2.1, hw.2.2, h3.2.2.2.2⟩
          · rw [up_ne _ _ hj2, up_ne _ _ hj2]; exact hj j
        · intro j (hlt : (j : Int) < σ 5 3 + 1)
          show 1 ≤ va_up (σ 16) (σ 5 3).toNat p0 j
          by_cases hj2 : j = (σ 5 3).toNat
          · subst hj2; rw [up_same]; exact hw.1.1
          · rw [up_ne _ _ hj2]; exact hj1 j (by omega)
    · refine ⟨fun r s => r = 2 ∧ s = σ, Or.inr ⟨fun k => k = 2, t_leaf ⟨h0, h8⟩ hp0 hp1 (fun hn => absurd hw hn) (fun _ => rfl) (fun _ => hf), fun k hk => Or.inr ⟨hk, rfl, rfl⟩⟩, ?_⟩
      rintro r1 s1 ⟨rfl, rfl⟩
      refine ⟨fun r s => s = va_up s1 27 (va_up (s1 27) 0 2), m_leaf (by omega) hp0 hp1 (fun _ hn => absurd hn (by omega)) (fun _ _ => rfl) (fun hn => absurd hw hn), ?_⟩
      rintro r2 s2 rfl
      exact cmpT rfl (Or.inr rfl) hR.thr
  · refine ⟨fun r s => r = 1 ∧ s = σ, Or.inr ⟨fun k => k = 1, t_leaf ⟨h0, h8⟩ hp0 hp1 (fun _ => rfl) (fun h => absurd h hw) (fun h => absurd h hw), fun k hk => Or.inl ⟨hk, rfl, rfl⟩⟩, ?_⟩
    rintro r1 s1 ⟨rfl, rfl⟩
    refine ⟨fun r s => s = va_up s1 27 (va_up (s1 27) 0 1), m_leaf (by omega) hp0 hp1 (fun h => absurd h hw) (fun h => absurd h hw) (fun _ => rfl), ?_⟩
    rintro r2 s2 rfl
    exact cmpT rfl (Or.inl rfl) hR.thr
/-! fault -/
def okFau (p0 p1 p2 : Int) : Prop := (0 ≤ p0 ∧ p0 ≤ 359) ∧ (0 ≤ p1 ∧ p1 ≤ 1000) ∧ (0 ≤ p2 ∧ p2 ≤ 3)
def sFau (σ : kM) (p0 p1 p2 : Int) : kM := va_up (va_up (va_up (va_up (va_up σ 6 (va_up (σ 6) 5 0)) 13 (va_up (σ 13) (σ 4 3).toNat p0)) 14 (va_up (σ 14) (σ 4 3).toNat p1)) 15 (va_up (σ 15) (σ 4 3).toNat p2)) 4 (va_up (σ 4) 3 (σ 4 3 + 1))
def mFau (σ : kM) (p0 p1 p2 : Int) : kM := va_up (va_up (va_up (va_up (va_up (va_up σ 27 (va_up (σ 27) 0 0)) 31 (va_up (σ 31) (σ 27 16).toNat p0)) 32 (va_up (σ 32) (σ 27 16).toNat p1)) 33 (va_up (σ 33) (σ 27 16).toNat p2)) 27 (va_up (va_up (σ 27) 0 0) 16 (σ 27 16 + 1))) 27 (va_up (va_up (va_up (σ 27) 0 0) 16 (σ 27 16 + 1)) 21 0)
theorem ex_kA {nn : Nat → Nat} {σ : kM} {a : Int} {A B : Prop} (ha : iR a) (h1 : 0 ≤ a → a ≤ 3 → B) (h0 : ¬ (0 ≤ a ∧ a ≤ 3) → A) : ∃ P : Int → Prop, wp_P_isKind nn σ a P ∧ ∀ r : Int, P r → iR r ∧ ((¬ r = 0 → B) ∧ (r = 0 → A)) := by
  refine ⟨fun r => (r = 0 ∧ A) ∨ (r = 1 ∧ B), ⟨fun r => (r = 0 ∧ A) ∨ (r = 1 ∧ B), ⟨ha, iR_0, fun h => Or.inl ⟨rfl, h0 (by omega)⟩, fun h => ⟨ha, ⟨by decide, by decide⟩, fun h2 => Or.inl ⟨rfl, h0 (by omega)⟩, fun h2 => Or.inr ⟨rfl, h1 (by omega) (by omega)⟩⟩⟩, ?_⟩, ?_⟩
  · rintro r (⟨rfl, h⟩ | ⟨rfl, h⟩)
    · exact ⟨Or.inl rfl, Or.inl ⟨rfl, h⟩⟩
    · exact ⟨Or.inr rfl, Or.inr ⟨rfl, h⟩⟩
  · rintro r (⟨rfl, h⟩ | ⟨rfl, h⟩)
    · exact ⟨⟨by decide, by decide⟩, fun h => absurd rfl h, fun _ => h⟩
    · exact ⟨⟨by decide, by decide⟩, fun _ => h, fun h => absurd h (by decide)⟩
theorem p_fau {nn : Nat → Nat} {σ : kM} {p0 p1 p2 : Int} {Pr : Int → kM → Prop} {Px : Nat → kM → Prop} (hc : 0 ≤ σ 4 3 ∧ σ 4 3 ≤ 16) (hp0 : iR p0) (hp1 : iR p1) (hp2 : iR p2) (hw : okFau p0 p1 p2) (hf : σ 4 3 < 16) (k1 : Pr (σ 4 3) (sFau σ p0 p1 p2)) : wp_P_fault nn σ p0 p1 p2 Pr Px := by
  refine ex_wA hp0 iR_0 ⟨by decide, by decide⟩ (fun _ _ => ex_wA hp1 iR_0 ⟨by decide, by decide⟩ (fun _ _ => ex_kA hp2 (fun _ _ => ?_) (fun h => absurd hw.2.2 h)) (fun h => absurd hw.2.1 h)) (fun h => absurd hw.1 h)
  refine ⟨fun r => r = 0, ⟨⟨by omega, by omega⟩, fun _ => rfl, fun h => absurd hf h⟩, ?_⟩
  rintro r rfl
  refine ⟨iR_0, fun _ => ⟨fun s => s = _, fun s hs => hs, ?_⟩, fun h => absurd rfl h⟩
  rintro s1 rfl
  refine ⟨Pr, ⟨⟨hc.1, hf, by show σ 4 3 < _; omega⟩, ?_⟩, fun r s h => h⟩
  rintro s1 rfl
  refine ⟨⟨hc.1, hf, by show σ 4 3 < _; omega⟩, ?_⟩
  rintro s2 rfl
  refine ⟨⟨hc.1, hf, by show σ 4 3 < _; omega⟩, ?_⟩
  rintro s3 rfl s4 rfl
  have e : σ 4 3 + 1 - 1 = σ 4 3 := by omega
  show Pr (σ 4 3 + 1 - 1) _
  rw [e]
  exact k1
theorem t_fau {nn : Nat → Nat} {σ : kM} {p0 p1 p2 : Int} {Px : Nat → Prop} (hc : 0 ≤ σ 4 3 ∧ σ 4 3 ≤ 16) (hp0 : iR p0) (hp1 : iR p1) (hp2 : iR p2) (k1 : ¬ okFau p0 p1 p2 → Px 1) (k2 : okFau p0 p1 p2 → Px 2) (hf : okFau p0 p1 p2 → ¬ σ 4 3 < 16) : wt_P_fault nn σ p0 p1 p2 Px := by
  refine ex_wA hp0 iR_0 ⟨by decide, by decide⟩ (fun a b => ex_wA hp1 iR_0 ⟨by decide, by decide⟩ (fun c d => ex_kA hp2 (fun e f => ?_) (fun h => k1 (fun q => h q.2.2))) (fun h => k1 (fun q => h q.2.1))) (fun h => k1 (fun q => h q.1))
  refine ⟨fun r => r = 1, ⟨⟨by omega, by omega⟩, fun h => absurd h (hf ⟨⟨a, b⟩, ⟨c, d⟩, e, f⟩), fun _ => rfl⟩, ?_⟩
  rintro r rfl
  exact ⟨⟨by decide, by decide⟩, fun h => absurd h (by decide), fun _ => k2 ⟨⟨a, b⟩, ⟨c, d⟩, e, f⟩⟩
theorem m_fau {nn : Nat → Nat} {σ : kM} {p0 p1 p2 : Int} {Pr : Int → kM → Prop} (hc : 0 ≤ σ 27 16 ∧ σ 27 16 ≤ 16) (hp0 : iR p0) (hp1 : iR p1) (hp2 : iR p2) (k1 : okFau p0 p1 p2 → σ 27 16 < 16 → Pr (σ 27 16) (mFau σ p0 p1 p2)) (k2 : okFau p0 p1 p2 → ¬ σ 27 16 < 16 → Pr 0 (va_up σ 27 (va_up (σ 27) 0 2))) (kt : ¬ okFau p0 p1 p2 → Pr 0 (va_up σ 27 (va_up (σ 27) 0 1))) : wp_M_fault nn σ p0 p1 p2 Pr := by
  have hg : okFau p0 p1 p2 → σ 27 16 < 16 → jn_M_fault_50 nn p0 p1 p2 σ Pr 0 := by
    rintro hw hf s1 rfl
    have hi : 0 ≤ σ 27 16 ∧ σ 27 16 < 16 ∧ σ 27 16 < 2147483648 := by omega
    refine ⟨iR_0, fun _ => ⟨hi, ?_⟩, fun h => absurd (Int.le_refl 0) h⟩
    rintro s2 rfl
    refine ⟨hi, ?_⟩
    rintro s3 rfl
    refine ⟨hi, ?_⟩
    rintro s4 rfl s5 rfl s6 rfl
    have e : σ 27 16 + 1 - 1 = σ 27 16 := by omega
    show Pr (σ 27 16 + 1 - 1) _
    rw [e]
    exact k1 hw hf
  have hn : ∀ v : Int, v = 1 ∨ v = 2 → Pr 0 (va_up σ 27 (va_up (σ 27) 0 v)) → jn_M_fault_50 nn p0 p1 p2 σ Pr v := by
    rintro v hv k s1 rfl
    exact ⟨(⟨by omega, by omega⟩ : iR v), fun (h : v ≤ 0) => by omega, fun _ => k⟩
  refine ex_mA hp0 iR_0 ⟨by decide, by decide⟩ (fun a b => ex_mA hp1 iR_0 ⟨by decide, by decide⟩ (fun c d => ex_mB hp2 iR_0 ⟨by decide, by decide⟩ (fun e f => ?_) (fun h => hn 1 (Or.inl rfl) (kt (fun q => h q.2.2)))) (fun h => hn 1 (Or.inl rfl) (kt (fun q => h q.2.1)))) (fun h => hn 1 (Or.inl rfl) (kt (fun q => h q.1)))
  exact ⟨⟨by omega, by omega⟩, fun h => hg ⟨⟨a, b⟩, ⟨c, d⟩, e, f⟩ (by omega), fun h => hn 2 (Or.inr rfl) (k2 ⟨⟨a, b⟩, ⟨c, d⟩, e, f⟩ (by omega))⟩
theorem r_fault {n d N : Int} {nn : Nat → Nat} {xs : Nat → Int32} (i : Int) (σ : kM) (h : Rel n d N σ) : wl_7 nn xs i σ (Rel n d N) := by
  have hR := h
  obtain ⟨hG, hC, hQ, hA, hM, hB, ⟨hc, h0, h8, hw1, hw2, hw3, hj⟩, hL, hP, hK⟩ := h
  have hp0 := xI_in xs (i + 1)
  have hp1 := xI_in xs (i + 2)
  have hp2 := xI_in xs (i + 3)
  unfold wl_7
  generalize xI xs (i + 1) = p0 at hp0 ⊢
  generalize xI xs (i + 2) = p1 at hp1 ⊢
  generalize xI xs (i + 3) = p2 at hp2 ⊢
  by_cases hw : okFau p0 p1 p2
  · by_cases hf : σ 4 3 < 16
    · refine ⟨fun r s => r = 0 ∧ s = va_up (sFau σ p0 p1 p2) 26 (va_up (σ 26) 0 (σ 4 3)), Or.inl ⟨fun r s => r = σ 4 3 ∧ s = sFau σ p0 p1 p2, p_fau ⟨h0, h8⟩ hp0 hp1 hp2 hw hf ⟨rfl, rfl⟩, ?_⟩, ?_⟩
      · rintro r s ⟨rfl, rfl⟩
        exact ⟨⟨by omega, by omega⟩, fun s2 hs => ⟨rfl, hs⟩⟩
      · rintro r1 s1 ⟨rfl, rfl⟩
        refine ⟨fun r s => r = σ 4 3 ∧ s = mFau (va_up (sFau σ p0 p1 p2) 26 (va_up (σ 26) 0 (σ 4 3))) p0 p1 p2, m_fau (σ := va_up (sFau σ p0 p1 p2) 26 (va_up (σ 26) 0 (σ 4 3))) (by show 0 ≤ σ 27 16 ∧ σ 27 16 ≤ 16; omega) hp0 hp1 hp2 (fun _ _ => ⟨hc, rfl⟩) (fun _ hn => absurd (show σ 27 16 < 16 by omega) hn) (fun hn => absurd hw hn), ?_⟩
        rintro r2 s2 ⟨rfl, rfl⟩
        refine cmpN rfl ⟨by omega, by omega⟩ rfl ?_
        refine ⟨hG, hC, hQ, hA, hM, hB, ?_, hL, ⟨rfl, Or.inl rfl, fun (h : (0 : Int) = 1) => absurd h (by decide)⟩, hK⟩
        refine ⟨show σ 27 16 + 1 = σ 4 3 + 1 by omega, show 0 ≤ σ 4 3 + 1 by omega, show σ 4 3 + 1 ≤ 16 by omega, ?_, ?_, ?_, ?_⟩
        · show va_up (σ 31) (σ 27 16).toNat p0 = va_up (σ 13) (σ 4 3).toNat p0; rw [hw1, hc]
        · show va_up (σ 32) (σ 27 16).toNat p1 = va_up (σ 14) (σ 4 3).toNat p1; rw [hw2, hc]
        · show va_up (σ 33) (σ 27 16).toNat p2 = va_up (σ 15) (σ 4 3).toNat p2; rw [hw3, hc]
        · intro j
          show 0 ≤ va_up (σ 13) (σ 4 3).toNat p0 j ∧ va_up (σ 13) (σ 4 3).toNat p0 j ≤ 359 ∧ 0 ≤ va_up (σ 14) (σ 4 3).toNat p1 j ∧ va_up (σ 14) (σ 4 3).toNat p1 j ≤ 1000 ∧ 0 ≤ va_up (σ 15) (σ 4 3).toNat p2 j ∧ va_up (σ 15) (σ 4 3).toNat p2 j ≤ 3
          by_cases hj2 : j = (σ 4 3).toNat
          · subst hj2; rw [up_same, up_same, up_same]; exact ⟨hw.1.1, hw.1.2, hw.2.1.1, hw.2.1.2, hw.2.2.1, hw.2.2.2⟩
          · rw [up_ne _ _ hj2, up_ne _ _ hj2, up_ne _ _ hj2]; exact hj j
    · refine ⟨fun r s => r = 2 ∧ s = σ, Or.inr ⟨fun k => k = 2, t_fau ⟨h0, h8⟩ hp0 hp1 hp2 (fun hn => absurd hw hn) (fun _ => rfl) (fun _ => hf), fun k hk => Or.inr ⟨hk, rfl, rfl⟩⟩, ?_⟩
      rintro r1 s1 ⟨rfl, rfl⟩
      refine ⟨fun r s => s = va_up s1 27 (va_up (s1 27) 0 2), m_fau (by omega) hp0 hp1 hp2 (fun _ hn => absurd hn (by omega)) (fun _ _ => rfl) (fun hn => absurd hw hn), ?_⟩
      rintro r2 s2 rfl
      exact cmpT rfl (Or.inr rfl) hR.thr
  · refine ⟨fun r s => r = 1 ∧ s = σ, Or.inr ⟨fun k => k = 1, t_fau ⟨h0, h8⟩ hp0 hp1 hp2 (fun _ => rfl) (fun h => absurd h hw) (fun h => absurd h hw), fun k hk => Or.inl ⟨hk, rfl, rfl⟩⟩, ?_⟩
    rintro r1 s1 ⟨rfl, rfl⟩
    refine ⟨fun r s => s = va_up s1 27 (va_up (s1 27) 0 1), m_fau (by omega) hp0 hp1 hp2 (fun h => absurd h hw) (fun h => absurd h hw) (fun _ => rfl), ?_⟩
    rintro r2 s2 rfl
    exact cmpT rfl (Or.inl rfl) hR.thr
