/-! peel -/
def RelG (n d N : Int) (σ : kM) : Prop := GeoG n d N (σ 1 0) (σ 1 1) (σ 1 2) (σ 1 3) (σ 1 4) (σ 27 1) (σ 27 2) (σ 27 3) ∧ CellG n d (σ 8) (σ 28) ∧ CacheG n d N (σ 8) (σ 9) (σ 10) ∧ AxC n d N (σ 8) (σ 2 1) (σ 2 2) (σ 2 4) (σ 2 5) (σ 12) ∧ KnM n d N (σ 28) (σ 27 6) (σ 27 7) (σ 29) (σ 30)
theorem Rel.g {n d N : Int} {σ : kM} (h : Rel n d N σ) : RelG n d N σ := ⟨h.1, h.2.1, h.2.2.1, h.2.2.2.1, h.2.2.2.2.1⟩
theorem m_radG {n d N : Int} {nn : Nat → Nat} {σ : kM} {Pr : Int → kM → Prop} (hP : Par n d N nn) (h : RelG n d N σ) (hst : σ 2 5 = 0) (kk : ∀ r s, FrK (va_up σ 27 (va_up (σ 27) 0 0)) s → s 27 6 = 1 → SqM n d N (σ 28) (s 29) → BestP d (rmf n d N (innM d (σ 28))) (s 27 7) (s 30 0) (s 30 1) (s 30 2) (s 30 3) → RootP N (σ 2 4) r → Pr r s) : wp_M_radius nn σ Pr := by
  obtain ⟨r1, r2, r3, ⟨-, r4⟩, r5⟩ := h
  have hB := r4 hst
  have hi := rm_in hP (inn_JO d (σ 8)) hB.1
  rw [hB.2.1] at hi
  have hN := hP.1
  have gM : GeoM n d N (σ 27) := r1.2.2.2.2.2
  rintro s1 rfl
  refine ⟨fun s => FrK (va_up σ 27 (va_up (σ 27) 0 0)) s ∧ s 27 6 = 1 ∧ SqM n d N (σ 28) (s 29) ∧ BestP d (rmf n d N (innM d (σ 28))) (s 27 7) (s 30 0) (s 30 1) (s 30 2) (s 30 3), m_know (σ := va_up σ 27 (va_up (σ 27) 0 0)) hP gM (BitM.of r2) r5 (fun s q1 q2 q3 q4 => ⟨q1, q2, q3, q4⟩), ?_⟩
  rintro s ⟨q1, q2, q3, q4⟩
  have hM := q4
  rw [rmf_M r2] at hM
  have e7 : s 27 7 = σ 2 4 := (hB.one hM).1
  have hL := lp1 (lp_M_radius_11 nn s (fun v => 0 ≤ v ∧ v * v ≤ s 27 7 * 10000 ∧ s 27 7 * 10000 < (v + 1) * (v + 1))) (fun v => 0 ≤ v ∧ v * v ≤ s 27 7 * 10000) (fun v => (1501 - v).toNat) ?_ 0 ⟨by omega, by omega⟩
  · obtain ⟨k1, hk⟩ := hL
    refine ⟨_, k1, hk, ?_⟩
    rintro v ⟨v1, v2, v3⟩
    have := root_le (by omega) v1 v2
    have e3 : s 27 3 = N := (q1.2 3 (by decide) (by decide)).trans gM.2.2
    rw [e3]
    rw [e7] at v2 v3
    exact ⟨⟨⟨by omega, by omega⟩, ⟨by omega, by omega⟩, v1, by omega⟩, kk _ s q1 q2 q3 q4 ⟨v, v1, v2, v3, rfl⟩⟩
  · rintro m v ⟨v1, v2⟩ ih
    have hle := root_le (by omega) v1 v2
    have hq := sq_le (a := v + 1) (b := 1501) (by omega) (by omega)
    have hq0 := sq_0 (v + 1)
    refine ⟨⟨by omega, by omega⟩, ⟨by omega, by omega⟩, fun h4 => ⟨v1, v2, h4⟩, fun h4 => ?_⟩
    rintro v3 rfl
    exact ih _ ⟨by omega, by omega⟩ (by omega)
def trn (r t c : Int) : Int := if c ≤ r then (r - c) / t else 0
theorem trn_ok {r t c : Int} (hr : 0 ≤ r ∧ r ≤ 1500) (ht : 1 ≤ t ∧ t ≤ 1000) (hc : 0 ≤ c) : Rb r t (trn r t c) ∧ iR (trn r t c) := by
  have key : 0 ≤ trn r t c ∧ trn r t c * t ≤ r ∧ trn r t c ≤ 1500 := by
    unfold trn
    split
    · have h1 : (r - c) / t * t ≤ r - c := Int.ediv_mul_le _ (by omega)
      have h2 : 0 ≤ (r - c) / t := Int.ediv_nonneg (by omega) (by omega)
      have h3 : (r - c) / t ≤ r - c := Int.ediv_le_self _ (by omega)
      omega
    · simp; omega
  exact ⟨⟨hr.1, hr.2, ht.1, ht.2, key.1, key.2.1⟩, by omega, by omega⟩
def sPeel (s : kM) (r t u : Int) : kM := va_up (va_up (va_up (va_up (va_up s 3 (va_up (s 3) 1 r)) 3 (va_up (va_up (s 3) 1 r) 2 t)) 3 (va_up (va_up (va_up (s 3) 1 r) 2 t) 3 u)) 3 (va_up (va_up (va_up (va_up (s 3) 1 r) 2 t) 3 u) 0 1)) 6 (va_up (s 6) 5 0)
def fPeel (f : Nat → Int) (r t u : Int) : Nat → Int := va_up (va_up (va_up (va_up (va_up f 12 r) 10 t) 11 u) 9 1) 21 0
theorem up_cg {f g : Nat → Int} {k j : Nat} {v : Int} (h : f j = g j) : va_up f k v j = va_up g k v j := by
  unfold va_up
  split
  · rfl
  · exact h
theorem fPeel_cg {f g : Nat → Int} {r t u : Int} {j : Nat} (h : f j = g j) : fPeel f r t u j = fPeel g r t u j := up_cg (up_cg (up_cg (up_cg (up_cg h))))
theorem p_peel {n d N : Int} {nn : Nat → Nat} {σ : kM} {p0 p1 : Int} {Pr : Int → kM → Prop} {Px : Nat → kM → Prop} (hP : Par n d N nn) (h : Rel n d N σ) (hp0 : iR p0) (hp1 : iR p1) (hw : (1 ≤ p0 ∧ p0 ≤ 1000) ∧ (0 ≤ p1 ∧ p1 ≤ 1000)) (kk : ∀ r s, Rel n d N s → s 2 5 = 0 → RootP N (s 2 4) r → Pr (trn r p0 p1) (sPeel s r p0 (trn r p0 p1))) : wp_P_peel nn σ p0 p1 Pr Px := by
  have hN := hP.1
  refine ex_wA hp0 ⟨by decide, by decide⟩ ⟨by decide, by decide⟩ (fun _ _ => ex_wB hp1 iR_0 ⟨by decide, by decide⟩ (fun _ _ => ?_) (fun h => absurd hw.2 h)) (fun h => absurd hw.1 h)
  refine ⟨fun r s => Rel n d N s ∧ s 2 5 = 0 ∧ RootP N (s 2 4) r, p_rad hP h (fun r s q1 q2 _ q3 => ⟨q1, q2, q3⟩), ?_⟩
  rintro r s ⟨q1, q2, q3⟩
  obtain ⟨hb, -⟩ := q1.best hP q2
  have hr := q3.bnd hb.2 (by omega)
  have k := kk r s q1 q2 q3
  refine ⟨fun s' => s' = va_up (va_up (va_up (va_up s 3 (va_up (s 3) 1 r)) 3 (va_up (va_up (s 3) 1 r) 2 p0)) 3 (va_up (va_up (va_up (s 3) 1 r) 2 p0) 3 (trn r p0 p1))) 3 (va_up (va_up (va_up (va_up (s 3) 1 r) 2 p0) 3 (trn r p0 p1)) 0 1), ?_, ?_⟩
  · rintro s1 rfl
    refine ⟨hp0, ?_⟩
    have e : (if 1 < p0 then p0 else 1) = p0 := by split <;> omega
    rw [e]
    rintro s2 rfl
    refine ⟨(⟨by omega, by omega⟩ : iR r), hp1, fun (hc : p1 ≤ r) => ⟨(⟨⟨by omega, by omega⟩, ⟨by omega, by omega⟩, by omega, by omega⟩ : iR (r - p1) ∧ iR p0 ∧ 0 ≤ r - p1 ∧ 0 < p0), ?_⟩, fun (hc : ¬ p1 ≤ r) => ?_⟩
    · rintro s3 rfl s4 rfl
      have et : trn r p0 p1 = (r - p1) / p0 := if_pos hc
      rw [et]
      rfl
    · rintro s3 rfl s4 rfl
      have et : trn r p0 p1 = 0 := if_neg hc
      rw [et]
      rfl
  · rintro s2 rfl
    refine ⟨fun s' => s' = sPeel s r p0 (trn r p0 p1), fun s1 e => e, ?_⟩
    rintro s3 rfl
    exact k
theorem r_peel {n d N : Int} {nn : Nat → Nat} {xs : Nat → Int32} (hP : Par n d N nn) (i : Int) (σ : kM) (h : Rel n d N σ) : wl_5 nn xs i σ (Rel n d N) := by
  have hN := hP.1
  have hp0 := xI_in xs (i + 1)
  have hp1 := xI_in xs (i + 2)
  unfold wl_5
  generalize xI xs (i + 1) = p0 at hp0 ⊢
  generalize xI xs (i + 2) = p1 at hp1 ⊢
  by_cases hw : (1 ≤ p0 ∧ p0 ≤ 1000) ∧ (0 ≤ p1 ∧ p1 ≤ 1000)
  · refine ⟨fun r s => r = 0 ∧ ∃ ra t, Rel n d N t ∧ t 2 5 = 0 ∧ RootP N (t 2 4) ra ∧ s = va_up (sPeel t ra p0 (trn ra p0 p1)) 26 (va_up (t 26) 0 (trn ra p0 p1)), Or.inl ⟨fun r s => ∃ ra t, Rel n d N t ∧ t 2 5 = 0 ∧ RootP N (t 2 4) ra ∧ r = trn ra p0 p1 ∧ s = sPeel t ra p0 (trn ra p0 p1), p_peel hP h hp0 hp1 hw (fun r s q1 q2 q3 => ⟨r, s, q1, q2, q3, rfl, rfl⟩), ?_⟩, ?_⟩
    · rintro r s ⟨ra, t, q1, q2, q3, rfl, rfl⟩
      obtain ⟨hb, -⟩ := q1.best hP q2
      have hr := q3.bnd hb.2 (by omega)
      exact ⟨(trn_ok hr hw.1 hw.2.1).2, fun s2 e => ⟨rfl, ra, t, q1, q2, q3, e⟩⟩
    · rintro r1 s1 ⟨rfl, ra, t, q1, q2, q3, rfl⟩
      obtain ⟨hb, -⟩ := q1.best hP q2
      have hr := q3.bnd hb.2 (by omega)
      obtain ⟨hRb, hti⟩ := trn_ok hr hw.1 hw.2.1
      refine ⟨fun r s => Rel n d N s ∧ s 27 0 = 0 ∧ s 26 0 = r ∧ iR r, ex_mA hp0 ⟨by decide, by decide⟩ ⟨by decide, by decide⟩ (fun _ _ => ex_mA hp1 iR_0 ⟨by decide, by decide⟩ (fun _ _ => ?_) (fun h => absurd hw.2 h)) (fun h => absurd hw.1 h), ?_⟩
      · rintro s2 rfl
        refine ⟨iR_0, fun _ => ⟨fun r s => r = ra ∧ FrK (va_up (va_up (sPeel t ra p0 (trn ra p0 p1)) 26 (va_up (t 26) 0 (trn ra p0 p1))) 27 (va_up (t 27) 0 0)) s ∧ s 27 6 = 1 ∧ SqM n d N (t 28) (s 29) ∧ BestP d (rmf n d N (innM d (t 28))) (s 27 7) (s 30 0) (s 30 1) (s 30 2) (s 30 3), ?_, ?_⟩, fun h => absurd (Int.le_refl 0) h⟩
        · refine m_radG (σ := va_up (va_up (sPeel t ra p0 (trn ra p0 p1)) 26 (va_up (t 26) 0 (trn ra p0 p1))) 27 (va_up (t 27) 0 0)) hP q1.g q2 (fun r s u1 u2 u3 u4 u5 => ⟨q3.one u5, ⟨fun c c1 c2 c3 => ?_, fun j j1 j2 => ?_⟩, u2, u3, u4⟩)
          · rw [u1.1 c c1 c2 c3, up_ne _ _ c1]
          · rw [u1.2 j j1 j2, up_same, up_same]
            by_cases e0 : j = 0
            · subst e0; rfl
            · rw [up_ne _ _ e0]
        · rintro r s ⟨rfl, u1, u2, u3, u4⟩ t3 rfl t4 rfl
          have fin : ∀ u : Int, u = trn r p0 p1 → jn_M_peel_77 nn (fun r s => Rel n d N s ∧ s 27 0 = 0 ∧ s 26 0 = r ∧ iR r) (va_up (va_up s 27 (va_up (s 27) 12 r)) 27 (va_up (va_up (s 27) 12 r) 10 p0)) u := by
            rintro u rfl t5 rfl t6 rfl t7 rfl
            have hτ : Rel n d N (va_up (va_up (sPeel t r p0 (trn r p0 p1)) 26 (va_up (t 26) 0 (trn r p0 p1))) 27 (fPeel (va_up (t 27) 0 0) r p0 (trn r p0 p1))) := by
              obtain ⟨r1, r2, r3, r4, r5, r6, r7, r8, r9, r10⟩ := q1
              exact ⟨r1, r2, r3, r4, r5, ⟨rfl, Or.inr rfl, fun _ => ⟨rfl, rfl, rfl, hRb⟩⟩, r7, r8, ⟨rfl, Or.inl rfl, fun (h : (0 : Int) = 1) => absurd h (by decide)⟩, r10⟩
            have hfr : FrK (va_up (va_up (sPeel t r p0 (trn r p0 p1)) 26 (va_up (t 26) 0 (trn r p0 p1))) 27 (fPeel (va_up (t 27) 0 0) r p0 (trn r p0 p1))) (va_up (va_up (va_up (va_up (va_up s 27 (va_up (s 27) 12 r)) 27 (va_up (va_up (s 27) 12 r) 10 p0)) 27 (va_up (va_up (va_up (s 27) 12 r) 10 p0) 11 (trn r p0 p1))) 27 (va_up (va_up (va_up (va_up (s 27) 12 r) 10 p0) 11 (trn r p0 p1)) 9 1)) 27 (fPeel (s 27) r p0 (trn r p0 p1))) := by
              refine ⟨fun c c1 c2 c3 => ?_, fun j j1 j2 => ?_⟩
              · rw [up_ne _ _ c1, up_ne _ _ c1, up_ne _ _ c1, up_ne _ _ c1, up_ne _ _ c1, u1.1 c c1 c2 c3, up_ne _ _ c1, up_ne _ _ c1]
              · rw [up_same, up_same]
                exact fPeel_cg (u1.2 j j1 j2)
            refine ⟨hτ.mdl hfr u2 u3 u4, ?_, ?_, hti⟩
            · show s 27 0 = 0
              exact u1.2 0 (by decide) (by decide)
            · show s 26 0 = trn r p0 p1
              rw [u1.1 26 (by decide) (by decide) (by decide)]
              rfl
          refine ⟨(⟨by omega, by omega⟩ : iR r), hp1, fun (hc : p1 ≤ r) => ⟨(⟨⟨by omega, by omega⟩, ⟨by omega, by omega⟩, by omega, by omega⟩ : iR (r - p1) ∧ iR p0 ∧ 0 ≤ r - p1 ∧ 0 < p0), ?_⟩, fun (hc : ¬ p1 ≤ r) => ?_⟩
          · exact fin _ (show (r - p1) / p0 = trn r p0 p1 from (if_pos hc).symm)
          · exact fin _ (show (0 : Int) = trn r p0 p1 from (if_neg hc).symm)
      · rintro r2 s2 ⟨u1, u2, u3, u4⟩
        exact cmpN u2 u4 u3 u1
  · refine ⟨fun r s => r = 1 ∧ s = σ, Or.inr ⟨fun k => k = 1, ex_wA hp0 ⟨by decide, by decide⟩ ⟨by decide, by decide⟩ (fun a b => ex_wB hp1 iR_0 ⟨by decide, by decide⟩ (fun c e => absurd ⟨⟨a, b⟩, c, e⟩ hw) (fun _ => rfl)) (fun _ => rfl), fun k hk => ⟨hk, rfl, rfl⟩⟩, ?_⟩
    rintro r1 s1 ⟨rfl, rfl⟩
    have hn : jn_M_peel_28 nn p0 p1 s1 (fun r s => s = va_up s1 27 (va_up (s1 27) 0 1)) 1 := by
      rintro s2 rfl
      exact ⟨(⟨by decide, by decide⟩ : iR 1), fun (h : (1 : Int) ≤ 0) => absurd h (by decide), fun _ => rfl⟩
    refine ⟨fun r s => s = va_up s1 27 (va_up (s1 27) 0 1), ex_mA hp0 ⟨by decide, by decide⟩ ⟨by decide, by decide⟩ (fun a b => ex_mA hp1 iR_0 ⟨by decide, by decide⟩ (fun c e => absurd ⟨⟨a, b⟩, c, e⟩ hw) (fun _ => hn)) (fun _ => hn), ?_⟩
    rintro r2 s2 rfl
    exact cmpT rfl (Or.inl rfl) h.thr
/-! cell -/
def sCell (σ : kM) (k x y v d : Int) : kM := va_up (va_up (va_up (va_up (va_up σ 8 (va_up (σ 8) (ic d k x y).toNat v)) 10 (va_up (σ 10) k.toNat 1)) 2 (va_up (σ 2) 5 1)) 3 (va_up (σ 3) 0 0)) 6 (va_up (σ 6) 5 0)
def okC (n d k x y : Int) : Prop := (0 ≤ k ∧ k < n) ∧ (0 ≤ x ∧ x < d) ∧ (0 ≤ y ∧ y < d)
theorem p_cell {n d N : Int} {nn : Nat → Nat} {σ : kM} {k x y v : Int} {Pr : Int → kM → Prop} {Px : Nat → kM → Prop} (hP : Par n d N nn) (h : Rel n d N σ) (hk : iR k) (hx : iR x) (hy : iR y) (hv : v = 0 ∨ v = 1) (hw : okC n d k x y) (k0 : σ 8 (ic d k x y).toNat = v → Pr 0 σ) (k1 : ¬ σ 8 (ic d k x y).toNat = v → Pr 1 (sCell σ k x y v d)) : wp_P_cell nn σ k x y v Pr Px := by
  obtain ⟨⟨a1, a2, a3, a4, a5, a6, a7⟩, n8, -, n10, -⟩ := id hP
  have hwx := hw.2.1
  have hwy := hw.2.2
  have hi := ic_in (n := n) (d := d) hw.1 (x := x) ⟨by omega, by omega⟩ (y := y) ⟨by omega, by omega⟩
  have hnd := nr_in (n := n) (r := d + 2) ⟨a1, a2⟩ ⟨by omega, by omega⟩
  have hbb := (h.2.1 k x y hw.1.1 hw.1.2 hw.2.1.1 hw.2.1.2 hw.2.2.1 hw.2.2.2).1
  have hin : 0 ≤ ic d k x y ∧ ic d k x y < (nn 8 : Int) ∧ ic d k x y < 2147483648 := by omega
  obtain ⟨P, q1, q2⟩ := ex_hcA (nn := nn) (σ := σ) (A := False) (B := True) hP h.gC hk hx hy (fun _ _ _ => trivial) (fun q => q hw)
  refine ⟨P, q1, fun r hr => ⟨(q2 r hr).1, fun _ => ?_, fun e => ((q2 r hr).2.1 e).elim⟩⟩
  refine ⟨fun r s => (r = 0 ∧ σ 8 (ic d k x y).toNat = v ∧ s = σ) ∨ (r = 1 ∧ ¬ σ 8 (ic d k x y).toNat = v ∧ s = va_up (va_up σ 8 (va_up (σ 8) (ic d k x y).toNat v)) 10 (va_up (σ 10) k.toNat 1)), ?_, ?_⟩
  · unfold wp_S_tell
    rw [h.gC.2.2.2.2]
    intro v1 hv1
    have hv1 : v1 = ic d k x y := hv1
    subst hv1
    refine ⟨hin, ⟨by omega, by omega⟩, ⟨by omega, by omega⟩, fun e => ⟨iR_0, fun _ => ⟨Or.inl rfl, Or.inl ⟨rfl, e, rfl⟩⟩, fun q => absurd rfl q⟩, fun e => ⟨⟨by decide, by decide⟩, fun q => absurd q (by decide), fun _ => ⟨hin, hv, ?_⟩⟩⟩
    rintro s1 rfl
    refine ⟨⟨hw.1.1, by have := hw.1.2; omega, by have := hw.1.2; omega⟩, ?_⟩
    rintro s2 rfl
    exact ⟨Or.inr rfl, Or.inr ⟨rfl, e, rfl⟩⟩
  · rintro r2 s1 (⟨rfl, e, rfl⟩ | ⟨rfl, e, rfl⟩)
    · exact ⟨iR_0, fun _ => ⟨Or.inl rfl, k0 e⟩, fun q => absurd rfl q⟩
    · refine ⟨⟨by decide, by decide⟩, fun q => absurd q (by decide), fun _ => ?_⟩
      refine ⟨fun s => s = _, fun s e => e, ?_⟩
      rintro s2 rfl
      refine ⟨fun s => s = _, fun s e => e, ?_⟩
      rintro s3 rfl
      refine ⟨fun s => s = _, fun s e => e, ?_⟩
      rintro s4 rfl
      exact ⟨Or.inr rfl, k1 e⟩
def mCell (σ : kM) (k x y v a b c : Int) : kM := va_up (va_up (va_up (va_up (va_up σ 27 (va_up (σ 27) 0 0)) 28 (va_up (σ 28) (100 * k + 10 * y + x).toNat v)) 27 (va_up (va_up (σ 27) 0 0) 6 a)) 27 (va_up (va_up (va_up (σ 27) 0 0) 6 a) 9 b)) 27 (va_up (va_up (va_up (va_up (σ 27) 0 0) 6 a) 9 b) 21 c)
theorem m_cell {n d N : Int} {nn : Nat → Nat} {σ : kM} {k x y v : Int} {Pr : Int → kM → Prop} (hP : Par n d N nn) (hg : GeoM n d N (σ 27)) (hb : BitM n d (σ 28)) (h6 : σ 27 6 = 0 ∨ σ 27 6 = 1) (h9 : σ 27 9 = 0 ∨ σ 27 9 = 1) (h21 : σ 27 21 = 0 ∨ σ 27 21 = 1) (hk : iR k) (hx : iR x) (hy : iR y) (hv : v = 0 ∨ v = 1) (k0 : okC n d k x y → σ 28 (100 * k + 10 * y + x).toNat = v → Pr 0 (mCell σ k x y v (σ 27 6) (σ 27 9) (σ 27 21))) (k1 : okC n d k x y → ¬ σ 28 (100 * k + 10 * y + x).toNat = v → Pr 1 (mCell σ k x y v 0 0 0)) (kt : ¬ okC n d k x y → Pr 0 (va_up σ 27 (va_up (σ 27) 0 1))) : wp_M_cell nn σ k x y v Pr := by
  obtain ⟨⟨a1, a2, a3, a4, a5, a6, a7⟩, -⟩ := id hP
  have hn : Pr 0 (va_up σ 27 (va_up (σ 27) 0 1)) → jn_M_cell_48 nn k x y v σ Pr 1 := by
    rintro q s1 rfl
    exact ⟨(⟨by decide, by decide⟩ : iR 1), fun (h : (1 : Int) ≤ 0) => absurd h (by decide), fun _ => q⟩
  unfold wp_M_cell
  rw [hg.1, hg.2.1]
  refine ex_mA hk iR_0 ⟨by omega, by omega⟩ (fun b1 b2 => ex_mA hx iR_0 ⟨by omega, by omega⟩ (fun b3 b4 => ex_mA hy iR_0 ⟨by omega, by omega⟩ (fun b5 b6 => ?_) (fun q => hn (kt (fun z => q ⟨z.2.2.1, by have := z.2.2.2; omega⟩)))) (fun q => hn (kt (fun z => q ⟨z.2.1.1, by have := z.2.1.2; omega⟩)))) (fun q => hn (kt (fun z => q ⟨z.1.1, by have := z.1.2; omega⟩)))
  have hw : okC n d k x y := ⟨⟨b1, by omega⟩, ⟨b3, by omega⟩, b5, by omega⟩
  have hbb := hb k x y hw.1.1 hw.1.2 hw.2.1.1 hw.2.1.2 hw.2.2.1 hw.2.2.2
  have hin : 0 ≤ 100 * k + 10 * y + x ∧ 100 * k + 10 * y + x < 400 ∧ 100 * k + 10 * y + x < 2147483648 := by omega
  rintro s1 rfl
  refine ⟨iR_0, fun _ => ?_, fun h => absurd (Int.le_refl 0) h⟩
  rintro v2 rfl
  refine ⟨hin, (⟨by omega, by omega⟩ : iR (σ 28 (100 * k + 10 * y + x).toNat)), ⟨by omega, by omega⟩, fun (e : σ 28 (100 * k + 10 * y + x).toNat = v) => ?_, fun (e : ¬ σ 28 (100 * k + 10 * y + x).toNat = v) => ?_⟩
  · have k0 := k0 hw e
    have f21 : ∀ s : kM, s 27 21 = σ 27 21 → Pr 0 (va_up s 27 (va_up (s 27) 21 (σ 27 21))) → ∀ P, P → iR (s 27 21) ∧ ((s 27 21 = 0 → ∀ s5 : kM, s5 = va_up s 27 (va_up (s 27) 21 0) → ((0 : Int) = 0 ∨ (0 : Int) = 1) ∧ Pr 0 s5) ∧ (¬ s 27 21 = 0 → iR 0 ∧ ((¬ (0 : Int) = 0 → ∀ s6 : kM, s6 = va_up s 27 (va_up (s 27) 21 0) → ((0 : Int) = 0 ∨ (0 : Int) = 1) ∧ Pr 0 s6) ∧ ((0 : Int) = 0 → ∀ s7 : kM, s7 = va_up s 27 (va_up (s 27) 21 1) → ((0 : Int) = 0 ∨ (0 : Int) = 1) ∧ Pr 0 s7)))) := by
      intro s hs kp P _
      rw [hs]
      refine ⟨⟨by omega, by omega⟩, fun q => ?_, fun q => ⟨iR_0, fun z => absurd rfl z, fun _ => ?_⟩⟩
      · rintro s5 rfl
        rw [q] at kp; exact ⟨Or.inl rfl, kp⟩
      · rintro s5 rfl
        rw [show σ 27 21 = 1 by omega] at kp; exact ⟨Or.inl rfl, kp⟩
    have f9 : ∀ b : Int, b = σ 27 9 → ∀ a : Int, a = σ 27 6 → jn_M_cell_140 nn Pr 0 (va_up (va_up (va_up σ 27 (va_up (σ 27) 0 0)) 28 (va_up (σ 28) (100 * k + 10 * y + x).toNat v)) 27 (va_up (va_up (σ 27) 0 0) 6 a)) b := by
      rintro b rfl a rfl
      refine ⟨h9, ?_⟩
      rintro s4 rfl
      exact f21 _ rfl k0 True trivial
    have f6 : ∀ a : Int, a = σ 27 6 → jn_M_cell_119 nn Pr 0 (va_up (va_up σ 27 (va_up (σ 27) 0 0)) 28 (va_up (σ 28) (100 * k + 10 * y + x).toNat v)) a := by
      rintro a ha
      refine ⟨by omega, ?_⟩
      rintro s3 rfl
      exact ⟨(⟨by omega, by omega⟩ : iR (σ 27 9)), fun (q : σ 27 9 = 0) => f9 0 q.symm a ha, fun (q : ¬ σ 27 9 = 0) => ⟨iR_0, fun z => absurd rfl z, fun _ => f9 1 (by omega) a ha⟩⟩
    refine ⟨hin, hv, ?_⟩
    rintro s2 rfl
    exact ⟨(⟨by omega, by omega⟩ : iR (σ 27 6)), fun (q : σ 27 6 = 0) => f6 0 q.symm, fun (q : ¬ σ 27 6 = 0) => ⟨iR_0, fun z => absurd rfl z, fun _ => f6 1 (by omega)⟩⟩
  · have k1 := k1 hw e
    have f9 : jn_M_cell_140 nn Pr 1 (va_up (va_up (va_up σ 27 (va_up (σ 27) 0 0)) 28 (va_up (σ 28) (100 * k + 10 * y + x).toNat v)) 27 (va_up (va_up (σ 27) 0 0) 6 0)) 0 := by
      refine ⟨Or.inl rfl, ?_⟩
      rintro s4 rfl
      refine ⟨(⟨by omega, by omega⟩ : iR (σ 27 21)), fun _ => ?_, fun _ => ⟨⟨by decide, by decide⟩, fun _ => ?_, fun z => absurd z (by decide)⟩⟩
      · rintro s5 rfl
        exact ⟨Or.inr rfl, k1⟩
      · rintro s5 rfl
        exact ⟨Or.inr rfl, k1⟩
    have f6 : jn_M_cell_119 nn Pr 1 (va_up (va_up σ 27 (va_up (σ 27) 0 0)) 28 (va_up (σ 28) (100 * k + 10 * y + x).toNat v)) 0 := by
      refine ⟨Or.inl rfl, ?_⟩
      rintro s3 rfl
      exact ⟨(⟨by omega, by omega⟩ : iR (σ 27 9)), fun _ => f9, fun _ => ⟨⟨by decide, by decide⟩, fun _ => f9, fun z => absurd z (by decide)⟩⟩
    refine ⟨hin, hv, ?_⟩
    rintro s2 rfl
    exact ⟨(⟨by omega, by omega⟩ : iR (σ 27 6)), fun _ => f6, fun _ => ⟨⟨by decide, by decide⟩, fun _ => f6, fun z => absurd z (by decide)⟩⟩
theorem up_id {f : Nat → Int} {k : Nat} {v : Int} (h : f k = v) : va_up f k v = f := by
  funext j
  by_cases e : j = k
  · subst e; rw [up_same, h]
  · rw [up_ne _ _ e]
theorem r_cell {n d N : Int} {nn : Nat → Nat} {xs : Nat → Int32} (hP : Par n d N nn) (i : Int) (σ : kM) (h : Rel n d N σ) : wl_0 nn xs i σ (Rel n d N) := by
  have hR := h
  obtain ⟨⟨a1, a2, a3, a4, a5, a6, a7⟩, n8, -, n10, -⟩ := id hP
  obtain ⟨hG, hC, hQ, ⟨hA1, hA2⟩, ⟨hM1, hM2⟩, ⟨hB1, hB2, hB3⟩, hF, hL, ⟨hP1, hP2, hP3⟩, hK⟩ := h
  have hp0 := xI_in xs (i + 1)
  have hp1 := xI_in xs (i + 2)
  have hp2 := xI_in xs (i + 3)
  have key : ∀ v : Int, v = 0 ∨ v = 1 → ((xI xs (i + 4) = 0 ∧ v = 0) ∨ (¬ xI xs (i + 4) = 0 ∧ v = 1)) → jn_law0_173 nn σ xs i (Rel n d N) v := by
    intro v hv he
    have h4 := xI_in xs (i + 4)
    have hjn : ∀ r1 s1, jn_law0_212 nn xs i (Rel n d N) r1 s1 v → iR (xI xs (i + 4)) ∧ ((xI xs (i + 4) = 0 → jn_law0_212 nn xs i (Rel n d N) r1 s1 0) ∧ (¬ xI xs (i + 4) = 0 → jn_law0_212 nn xs i (Rel n d N) r1 s1 1)) := by
      intro r1 s1 hh
      refine ⟨h4, fun q => ?_, fun q => ?_⟩
      · rw [show v = 0 by omega] at hh; exact hh
      · rw [show v = 1 by omega] at hh; exact hh
    have suff : (∃ P1 : Int → kM → Prop, wp_W_cell nn σ (xI xs (i + 1)) (xI xs (i + 2)) (xI xs (i + 3)) v P1 ∧ ∀ (r1 : Int) (s1 : kM), P1 r1 s1 → jn_law0_212 nn xs i (Rel n d N) r1 s1 v) → jn_law0_173 nn σ xs i (Rel n d N) v := fun ⟨P, a, b⟩ => ⟨P, a, fun r1 s1 q => hjn r1 s1 (b r1 s1 q)⟩
    refine suff ?_
    unfold jn_law0_212
    generalize xI xs (i + 1) = k at hp0 ⊢
    generalize xI xs (i + 2) = x at hp1 ⊢
    generalize xI xs (i + 3) = y at hp2 ⊢
    have hbM : BitM n d (σ 28) := BitM.of hC
    by_cases hw : okC n d k x y
    · have hcm := hC k x y hw.1.1 hw.1.2 hw.2.1.1 hw.2.1.2 hw.2.2.1 hw.2.2.2
      by_cases hch : σ 8 (ic d k x y).toNat = v
      · refine ⟨fun r s => r = 0 ∧ s = va_up σ 26 (va_up (σ 26) 0 0), Or.inl ⟨fun r s => r = 0 ∧ s = σ, p_cell hP hR hp0 hp1 hp2 hv hw (fun _ => ⟨rfl, rfl⟩) (fun q => absurd hch q), ?_⟩, ?_⟩
        · rintro r s ⟨rfl, rfl⟩
          exact ⟨iR_0, fun _ s2 hs => ⟨rfl, hs⟩, fun q => absurd rfl q⟩
        · rintro r1 s1 ⟨rfl, rfl⟩
          refine ⟨fun r s => r = 0 ∧ s = mCell (va_up σ 26 (va_up (σ 26) 0 0)) k x y v (σ 27 6) (σ 27 9) (σ 27 21), m_cell (σ := va_up σ 26 (va_up (σ 26) 0 0)) hP hR.gM hbM hM1 (by show σ 27 9 = 0 ∨ σ 27 9 = 1; omega) (by show σ 27 21 = 0 ∨ σ 27 21 = 1; omega) hp0 hp1 hp2 hv (fun _ _ => ⟨rfl, rfl⟩) (fun _ q => absurd (show σ 28 (100 * k + 10 * y + x).toNat = v by rw [hcm.2]; exact hch) q) (fun q => absurd hw q), ?_⟩
          rintro r2 s2 ⟨rfl, rfl⟩
          refine cmpZ (J := fun s v => jn_law0_246 nn (Rel n d N) s v) (fun v hv e k => cmpL hv e k) rfl (Or.inl rfl) rfl ?_
          have e28 : va_up (σ 28) (100 * k + 10 * y + x).toNat v = σ 28 := up_id (by rw [hcm.2]; exact hch)
          refine ⟨hG, ?_, hQ, ⟨hA1, hA2⟩, ?_, ⟨hB1, hB2, hB3⟩, hF, hL, ⟨hP1, hP2, hP3⟩, hK⟩
          · show CellG n d (σ 8) (va_up (σ 28) (100 * k + 10 * y + x).toNat v)
            rw [e28]; exact hC
          · show KnM n d N (va_up (σ 28) (100 * k + 10 * y + x).toNat v) (σ 27 6) (σ 27 7) (σ 29) (σ 30)
            rw [e28]; exact ⟨hM1, hM2⟩
      · refine ⟨fun r s => r = 0 ∧ s = va_up (sCell σ k x y v d) 26 (va_up (σ 26) 0 1), Or.inl ⟨fun r s => r = 1 ∧ s = sCell σ k x y v d, p_cell hP hR hp0 hp1 hp2 hv hw (fun q => absurd q hch) (fun _ => ⟨rfl, rfl⟩), ?_⟩, ?_⟩
        · rintro r s ⟨rfl, rfl⟩
          exact ⟨⟨by decide, by decide⟩, fun q => absurd q (by decide), fun _ s2 hs => ⟨rfl, hs⟩⟩
        · rintro r1 s1 ⟨rfl, rfl⟩
          refine ⟨fun r s => r = 1 ∧ s = mCell (va_up (sCell σ k x y v d) 26 (va_up (σ 26) 0 1)) k x y v 0 0 0, m_cell (σ := va_up (sCell σ k x y v d) 26 (va_up (σ 26) 0 1)) hP hR.gM hbM hM1 (by show σ 27 9 = 0 ∨ σ 27 9 = 1; omega) (by show σ 27 21 = 0 ∨ σ 27 21 = 1; omega) hp0 hp1 hp2 hv (fun _ q => absurd (show σ 8 (ic d k x y).toNat = v by rw [← hcm.2]; exact q) hch) (fun _ _ => ⟨rfl, rfl⟩) (fun q => absurd hw q), ?_⟩
          rintro r2 s2 ⟨rfl, rfl⟩
          refine cmpZ (J := fun s v => jn_law0_246 nn (Rel n d N) s v) (fun v hv e k => cmpL hv e k) rfl (Or.inr rfl) rfl ?_
          have hwx := hw.2.1
          have hwy := hw.2.2
          have hne : ∀ k' x' y' : Int, 0 ≤ k' → -1 ≤ x' → x' ≤ d → -1 ≤ y' → y' ≤ d → ¬ (k' = k ∧ x' = x ∧ y' = y) → (ic d k' x' y').toNat ≠ (ic d k x y).toNat := fun k' x' y' c1 c2 c3 c4 c5 c6 q => by
            obtain ⟨e1, e2, e3⟩ := ic_inj c1 hw.1.1 ⟨c2, c3⟩ ⟨c4, c5⟩ ⟨by omega, by omega⟩ ⟨by omega, by omega⟩ q
            exact c6 ⟨e1, e2, e3⟩
          have hrim : RimC n d (va_up (σ 8) (ic d k x y).toNat v) := by
            intro k' x' y' c1 c2 c3 c4 c5 c6 c7
            rw [up_ne _ _ (hne k' x' y' c1 c3 c4 c5 c6 (fun z => by omega))]
            exact hA1.1.2.2 k' x' y' c1 c2 c3 c4 c5 c6 c7
          refine ⟨hG, ?_, ?_, ⟨⟨⟨hA1.1.1, hA1.1.2.1, hrim⟩, Or.inr rfl⟩, fun (q : (1 : Int) = 0) => absurd q (by decide)⟩, ⟨Or.inl rfl, fun (q : (0 : Int) = 1) => absurd q (by decide)⟩, ⟨rfl, Or.inl rfl, fun (q : (0 : Int) = 1) => absurd q (by decide)⟩, hF, hL, ⟨rfl, Or.inl rfl, fun (q : (0 : Int) = 1) => absurd q (by decide)⟩, hK⟩
          · show CellG n d (va_up (σ 8) (ic d k x y).toNat v) (va_up (σ 28) (100 * k + 10 * y + x).toNat v)
            intro k' x' y' c1 c2 c3 c4 c5 c6
            by_cases e : k' = k ∧ x' = x ∧ y' = y
            · obtain ⟨rfl, rfl, rfl⟩ := e
              rw [up_same, up_same]
              exact ⟨hv, rfl⟩
            · rw [up_ne _ _ (hne k' x' y' c1 (by omega) (by omega) (by omega) (by omega) e), up_ne _ _ (by have := hw.1; have := hw.2; omega)]
              exact hC k' x' y' c1 c2 c3 c4 c5 c6
          · show CacheG n d N (va_up (σ 8) (ic d k x y).toNat v) (σ 9) (va_up (σ 10) k.toNat 1)
            intro k' c1 c2
            by_cases e : k' = k
            · subst e
              rw [up_same]
              exact ⟨Or.inr rfl, fun (q : (1 : Int) = 0) => absurd q (by decide)⟩
            · rw [up_ne _ _ (by have := hw.1; omega)]
              obtain ⟨t1, t2⟩ := hQ k' c1 c2
              refine ⟨t1, fun q px py d1 d2 d3 d4 => ?_⟩
              have ei : inn d (va_up (σ 8) (ic d k x y).toNat v) k' = inn d (σ 8) k' := by
                funext x' y'
                unfold inn
                by_cases hh : 0 ≤ x' ∧ x' < d ∧ 0 ≤ y' ∧ y' < d
                · rw [if_pos hh, if_pos hh, up_ne _ _ (hne k' x' y' c1 (by omega) (by omega) (by omega) (by omega) (fun z => e z.1))]
                · rw [if_neg hh, if_neg hh]
              rw [ei]
              exact t2 q px py d1 d2 d3 d4
    · refine ⟨fun r s => r = 1 ∧ s = σ, Or.inr ⟨fun k => k = 0, ?_, fun k hk => ⟨hk, rfl, rfl⟩⟩, ?_⟩
      · obtain ⟨P, q1, q2⟩ := ex_hcA (nn := nn) (σ := σ) (A := True) (B := False) hP hR.gC hp0 hp1 hp2 (fun u v w => hw ⟨u, v, w⟩) (fun _ => trivial)
        exact ⟨P, q1, fun r hr => ⟨(q2 r hr).1, fun z => (q2 r hr).2.2 z, fun _ => rfl⟩⟩
      · rintro r1 s1 ⟨rfl, rfl⟩
        refine ⟨fun r s => s = va_up s1 27 (va_up (s1 27) 0 1), m_cell hP hR.gM hbM hM1 (by omega) (by omega) hp0 hp1 hp2 hv (fun q => absurd q hw) (fun q => absurd q hw) (fun _ => rfl), ?_⟩
        rintro r2 s2 rfl
        exact cmpT rfl (Or.inl rfl) hR.thr
  exact ⟨xI_in xs (i + 4), fun q => key 0 (Or.inl rfl) (Or.inl ⟨q, rfl⟩), fun q => key 1 (Or.inr rfl) (Or.inr ⟨q, rfl⟩)⟩
