/-! the reference measures and searches -/
def GeoM (n d N : Int) (b : Nat → Int) : Prop := b 1 = n ∧ b 2 = d ∧ b 3 = N
def BitM (n d : Int) (f : Nat → Int) : Prop := ∀ k x y : Int, 0 ≤ k → k < n → 0 ≤ x → x < d → 0 ≤ y → y < d → (f (100 * k + 10 * y + x).toNat = 0 ∨ f (100 * k + 10 * y + x).toNat = 1)
theorem BitM.of {n d : Int} {f8 f28 : Nat → Int} (h : CellG n d f8 f28) : BitM n d f28 := fun k x y a b c e f g => by
  obtain ⟨h1, h2⟩ := h k x y a b c e f g
  rw [h2]; exact h1
theorem ex_ls {nn : Nat → Nat} {σ : kM} {a b : Int} {G : Int → Prop} (ha : iR a) (hb : iR b) (k : ∀ r, (r = a ∨ r = b) → r ≤ a → r ≤ b → G r) : ∃ P : Int → Prop, wp_M_less nn σ a b P ∧ ∀ r : Int, P r → G r :=
  ⟨G, ⟨ha, hb, fun h => k b (Or.inr rfl) h (Int.le_refl _), fun h => k a (Or.inl rfl) (Int.le_refl _) (by omega)⟩, fun _ h => h⟩
theorem m_off {nn : Nat → Nat} {σ : kM} {d N p c : Int} {Pr : Int → Prop} (hd : 1 ≤ d ∧ d ≤ 10) (hN : 1 ≤ N ∧ N ≤ 3) (hp : 0 ≤ p ∧ p ≤ d * N) (hc : -1 ≤ c ∧ c ≤ d) (k : Pr (gp N p c)) : wp_M_off nn σ p (c * N) (c * N + N) Pr := by
  have h0 := dN_in hd hN
  have h1 : c * N ≤ d * N := Int.mul_le_mul_of_nonneg_right hc.2 (by omega)
  have h2 : (-1) * N ≤ c * N := Int.mul_le_mul_of_nonneg_right hc.1 (by omega)
  unfold gp at k
  refine ⟨⟨by omega, by omega⟩, ⟨by omega, by omega⟩, fun q => ⟨⟨by omega, by omega⟩, ⟨by omega, by omega⟩, fun q2 => ?_, fun q2 => ?_⟩, fun q => ?_⟩
  · rw [if_neg (by omega), if_neg (by omega)] at k; exact k
  · rw [if_neg (by omega), if_pos (by omega)] at k; exact k
  · rw [if_pos (by omega)] at k; exact k
/-- the least so far -/
def Sq (d N e : Int) (I : Int → Int → Int) (px py v Y X : Int) : Prop := v ≤ e * e ∧ (∀ x y, 0 ≤ x → x < d → 0 ≤ y → y < d → (y < Y ∨ (y = Y ∧ x < X)) → I x y = 0 → v ≤ gp N px x * gp N px x + gp N py y * gp N py y) ∧ (v = e * e ∨ ∃ x y, 0 ≤ x ∧ x < d ∧ 0 ≤ y ∧ y < d ∧ I x y = 0 ∧ v = gp N px x * gp N px x + gp N py y * gp N py y)
theorem Sq.bnd {d N e : Int} {I : Int → Int → Int} {px py v Y X : Int} (h : Sq d N e I px py v Y X) (he : 0 ≤ e ∧ e ≤ 30) : 0 ≤ v ∧ v ≤ 900 := by
  obtain ⟨h1, -, h3⟩ := h
  have := sq_le he.1 he.2
  have := sq_0 e
  rcases h3 with rfl | ⟨x, y, -, -, -, -, -, rfl⟩
  · omega
  · have := sq_0 (gp N px x)
    have := sq_0 (gp N py y)
    omega
theorem m_square {nn : Nat → Nat} {σ : kM} {n d N k px py : Int} {Pr : Int → Prop} (hP : Par n d N nn) (hg : GeoM n d N (σ 27)) (hb : BitM n d (σ 28)) (hk : 0 ≤ k ∧ k < n) (hpx : 0 ≤ px ∧ px ≤ d * N) (hpy : 0 ≤ py ∧ py ≤ d * N) (kk : Pr (near d N (innM d (σ 28) k) px py)) : wp_M_square nn σ k px py Pr := by
  obtain ⟨⟨a1, a2, a3, a4, a5, a6, a7⟩, -⟩ := id hP
  obtain ⟨g1, g2, g3⟩ := id hg
  have hdN := dN_in ⟨a3, a4⟩ ⟨a5, a6⟩
  have hI := innM_out d (σ 28) k
  unfold wp_M_square
  rw [g2, g3]
  rintro v1 rfl
  refine ex_ls ⟨by omega, by omega⟩ ⟨by omega, by omega⟩ (fun r1 r1a r1b r1c => ex_ls ⟨by omega, by omega⟩ ⟨by omega, by omega⟩ (fun r2 r2a r2b r2c => ex_ls ⟨by omega, by omega⟩ ⟨by omega, by omega⟩ (fun e ea eb ec => ?_)))
  rintro v2 rfl
  have he : 0 ≤ e ∧ e ≤ 30 := by omega
  have hL := lp2 (lp_M_square_42 nn k px py σ (fun _ v => v = near d N (innM d (σ 28) k) px py)) (fun v3 v4 => 0 ≤ v3 ∧ v3 ≤ d ∧ Sq d N e (innM d (σ 28) k) px py v4 v3 0) (fun v3 _ => (d - v3).toNat) ?_ 0 (e * e) ⟨by omega, by omega, Int.le_refl _, fun x y _ _ q1 _ q2 => by omega, Or.inl rfl⟩
  · obtain ⟨k1, h⟩ := hL
    exact ⟨_, k1, h, fun v5 v6 q => q ▸ kk⟩
  · rintro m v3 v4 ⟨h1, h2, hs⟩ ih
    refine ⟨⟨by omega, by omega⟩, by rw [g2]; exact ⟨by omega, by omega⟩, fun h => ?_, fun h => ?_⟩
    · rw [g2] at h
      obtain ⟨s1, s2, s3⟩ := hs
      exact near_sq ⟨a5, a6⟩ ⟨a3, a4⟩ hpx hpy hI (by omega) (by omega) (by omega) (by omega) (by omega) s1 (fun x y q1 q2 q3 q4 q5 => s2 x y q1 q2 q3 q4 (by omega) q5) s3
    · rw [g2] at h
      have hL2 := lp2 (lp_M_square_54 nn k px py σ v3 (fun _ v => Sq d N e (innM d (σ 28) k) px py v (v3 + 1) 0)) (fun v7 v8 => 0 ≤ v7 ∧ v7 ≤ d ∧ Sq d N e (innM d (σ 28) k) px py v8 v3 v7) (fun v7 _ => (d - v7).toNat) ?_ 0 v4 ⟨by omega, by omega, hs⟩
      · obtain ⟨k2, hk2⟩ := hL2
        refine ⟨_, k2, hk2, ?_⟩
        rintro v9 v10 q v11 rfl
        exact ih _ _ ⟨by omega, by omega, q⟩ (by omega)
      · rintro m7 v7 v8 ⟨f1, f2, hs8⟩ ih8
        have hbd := hs8.bnd he
        obtain ⟨s1, s2, s3⟩ := hs8
        refine ⟨⟨by omega, by omega⟩, by rw [g2]; exact ⟨by omega, by omega⟩, fun h3 => ?_, fun h3 => ?_⟩
        · rw [g2] at h3
          exact ⟨s1, fun x y q1 q2 q3 q4 q5 q6 => s2 x y q1 q2 q3 q4 (by omega) q6, s3⟩
        · rw [g2] at h3
          have hbb := hb k v7 v3 hk.1 hk.2 f1 (by omega) h1 (by omega)
          have eI : innM d (σ 28) k v7 v3 = σ 28 (100 * k + 10 * v3 + v7).toNat := if_pos ⟨f1, by omega, h1, by omega⟩
          refine ⟨⟨by omega, by omega, by omega⟩, ⟨by omega, by omega⟩, fun h4 => ?_, fun h4 => ?_⟩
          · rintro v12 rfl
            refine ih8 _ _ ⟨by omega, by omega, s1, fun x y q1 q2 q3 q4 q5 q6 => ?_, s3⟩ (by omega)
            by_cases exy : y = v3 ∧ x = v7
            · obtain ⟨rfl, rfl⟩ := exy
              exact absurd (eI ▸ q6) h4
            · exact s2 x y q1 q2 q3 q4 (by omega) q6
          · rw [g3]
            refine ⟨fun r => r = gp N px v7, m_off ⟨a3, a4⟩ ⟨a5, a6⟩ hpx ⟨by omega, by omega⟩ rfl, ?_⟩
            rintro r4 rfl
            refine ⟨fun r => r = gp N py v3, m_off ⟨a3, a4⟩ ⟨a5, a6⟩ hpy ⟨by omega, by omega⟩ rfl, ?_⟩
            rintro r5 rfl
            have q1 := gsq_le (c := v7) ⟨a3, a4⟩ ⟨a5, a6⟩ hpx ⟨by omega, by omega⟩
            have q2 := gsq_le (c := v3) ⟨a3, a4⟩ ⟨a5, a6⟩ hpy ⟨by omega, by omega⟩
            refine ex_ls ⟨by omega, by omega⟩ ⟨by omega, by omega⟩ (fun r6 ra rb rc => ?_)
            rintro v13 rfl
            refine ih8 _ _ ⟨by omega, by omega, by omega, fun x y p1 p2 p3 p4 p5 p6 => ?_, ?_⟩ (by omega)
            · by_cases exy : y = v3 ∧ x = v7
              · obtain ⟨rfl, rfl⟩ := exy
                exact rc
              · have := s2 x y p1 p2 p3 p4 (by omega) p6; omega
            · rcases ra with rfl | rfl
              · exact s3
              · exact Or.inr ⟨v7, v3, f1, by omega, h1, by omega, eI.trans h4, rfl⟩
/-! all places -/
def Dn (n d N : Int) (J : Int → Int → Int → Int) (f : Nat → Int) (k v12 v15 : Int) : Prop := ∀ k' px py : Int, 0 ≤ k' → k' < n → 0 ≤ px → px ≤ d * N → 0 ≤ py → py ≤ d * N → (k' < k ∨ (k' = k ∧ (py < v12 ∨ (py = v12 ∧ px < v15)))) → f (961 * k' + 31 * py + px).toNat = near d N (J k') px py
def Fr29 (σ s : kM) : Prop := ∀ c, c ≠ 29 → s c = σ c
theorem m_squares {nn : Nat → Nat} {σ : kM} {n d N : Int} {G : kM → Prop} (hP : Par n d N nn) (hg : GeoM n d N (σ 27)) (hb : BitM n d (σ 28)) (kk : ∀ s, Fr29 σ s → SqM n d N (σ 28) (s 29) → G s) : ∃ (Pe1 : Int → kM → Prop) (k1 : Nat), lp_M_know_10 nn Pe1 k1 0 σ ∧ ∀ (v2 : Int) (s2 : kM), Pe1 v2 s2 → G s2 := by
  obtain ⟨⟨a1, a2, a3, a4, a5, a6, a7⟩, -⟩ := id hP
  have hdN := dN_in ⟨a3, a4⟩ ⟨a5, a6⟩
  have hL := lp2 (lp_M_know_10 nn (fun _ s => Fr29 σ s ∧ SqM n d N (σ 28) (s 29))) (fun v1 s => 0 ≤ v1 ∧ v1 ≤ n ∧ Fr29 σ s ∧ Dn n d N (innM d (σ 28)) (s 29) v1 0 0) (fun v1 _ => (n - v1).toNat) ?_ 0 σ ⟨by omega, by omega, fun _ _ => rfl, fun k' px py q1 q2 q3 q4 q5 q6 q7 => by omega⟩
  · obtain ⟨k1, h⟩ := hL
    exact ⟨_, k1, h, fun v2 s2 q => kk s2 q.1 q.2⟩
  · rintro m v1 s1 ⟨h1, h2, hf, hd⟩ ih
    have es : s1 27 = σ 27 := hf 27 (by decide)
    refine ⟨⟨by omega, by omega⟩, by rw [es, hg.1]; exact ⟨by omega, by omega⟩, fun h => ?_, fun h => ?_⟩
    · rw [es, hg.1] at h
      exact ⟨hf, fun k px py q1 q2 q3 q4 q5 q6 => hd k px py q1 q2 q3 q4 q5 q6 (by omega)⟩
    · rw [es, hg.1] at h
      have hL2 := lp2 (lp_M_know_20 nn v1 (fun _ s => Fr29 σ s ∧ Dn n d N (innM d (σ 28)) (s 29) (v1 + 1) 0 0)) (fun v12 s => 0 ≤ v12 ∧ v12 ≤ d * N + 1 ∧ Fr29 σ s ∧ Dn n d N (innM d (σ 28)) (s 29) v1 v12 0) (fun v12 _ => (d * N + 1 - v12).toNat) ?_ 0 s1 ⟨by omega, by omega, hf, hd⟩
      · obtain ⟨k2, hk2⟩ := hL2
        refine ⟨_, k2, hk2, ?_⟩
        rintro v13 s13 ⟨q1, q2⟩ v14 rfl
        exact ih _ _ ⟨by omega, by omega, q1, q2⟩ (by omega)
      · rintro m12 v12 s12 ⟨e1, e2, hf12, hd12⟩ ih12
        have es12 : s12 27 = σ 27 := hf12 27 (by decide)
        refine ⟨⟨by omega, by omega⟩, by rw [es12, hg.2.1, hg.2.2]; exact ⟨by omega, by omega⟩, fun h3 => ?_, fun h3 => ?_⟩
        · rw [es12, hg.2.1, hg.2.2] at h3
          exact ⟨hf12, fun k px py q1 q2 q3 q4 q5 q6 q7 => hd12 k px py q1 q2 q3 q4 q5 q6 (by omega)⟩
        · rw [es12, hg.2.1, hg.2.2] at h3
          have hL3 := lp2 (lp_M_know_35 nn v1 v12 (fun _ s => Fr29 σ s ∧ Dn n d N (innM d (σ 28)) (s 29) v1 (v12 + 1) 0)) (fun v15 s => 0 ≤ v15 ∧ v15 ≤ d * N + 1 ∧ Fr29 σ s ∧ Dn n d N (innM d (σ 28)) (s 29) v1 v12 v15) (fun v15 _ => (d * N + 1 - v15).toNat) ?_ 0 s12 ⟨by omega, by omega, hf12, hd12⟩
          · obtain ⟨k3, hk3⟩ := hL3
            refine ⟨_, k3, hk3, ?_⟩
            rintro v16 s15 ⟨q1, q2⟩ v17 rfl
            exact ih12 _ _ ⟨by omega, by omega, q1, q2⟩ (by omega)
          · rintro m15 v15 s14 ⟨f1, f2, hf14, hd14⟩ ih14
            have es14 : s14 27 = σ 27 := hf14 27 (by decide)
            have es28 : s14 28 = σ 28 := hf14 28 (by decide)
            refine ⟨⟨by omega, by omega⟩, by rw [es14, hg.2.1, hg.2.2]; exact ⟨by omega, by omega⟩, fun h5 => ?_, fun h5 => ?_⟩
            · rw [es14, hg.2.1, hg.2.2] at h5
              exact ⟨hf14, fun k px py q1 q2 q3 q4 q5 q6 q7 => hd14 k px py q1 q2 q3 q4 q5 q6 (by omega)⟩
            · rw [es14, hg.2.1, hg.2.2] at h5
              refine ⟨fun r => r = near d N (innM d (σ 28) v1) v15 v12, m_square (σ := s14) hP (by rw [es14]; exact hg) (by rw [es28]; exact hb) ⟨h1, by omega⟩ ⟨f1, by omega⟩ ⟨e1, by omega⟩ (by rw [es28]), ?_⟩
              rintro r2 rfl
              refine ⟨⟨by omega, by omega, by omega⟩, ?_⟩
              rintro s16 rfl v18 rfl
              refine ih14 _ _ ⟨by omega, by omega, fun c hc => by rw [up_ne _ _ hc]; exact hf14 c hc, fun k px py q1 q2 q3 q4 q5 q6 q7 => ?_⟩ (by omega)
              rw [up_same]
              by_cases ee : k = v1 ∧ py = v12 ∧ px = v15
              · obtain ⟨rfl, rfl, rfl⟩ := ee
                rw [up_same]
              · rw [up_ne _ _ (by omega)]
                exact hd14 k px py q1 q2 q3 q4 q5 q6 (by omega)
theorem rmS {d N : Int} {J : Int → Int → Int → Int} {x0 y0 x1 y1 v : Int} (hv : 0 ≤ v) : rmF d N J x0 y0 x1 y1 (v + 1).toNat = if near d N (J v) (x0 * N + (x1 - x0) * v) (y0 * N + (y1 - y0) * v) < rmF d N J x0 y0 x1 y1 v.toNat then near d N (J v) (x0 * N + (x1 - x0) * v) (y0 * N + (y1 - y0) * v) else rmF d N J x0 y0 x1 y1 v.toNat := by
  have e : (v + 1).toNat = v.toNat + 1 := by omega
  have e2 : ((v.toNat : Nat) : Int) = v := by omega
  rw [e]
  unfold rmF
  rw [mnT]
  simp only [e2]
theorem m_roomAt {nn : Nat → Nat} {σ : kM} {n d N x0 y0 x1 y1 : Int} {f28 : Nat → Int} {Pr : Int → Prop} (hP : Par n d N nn) (hg : GeoM n d N (σ 27)) (hS : SqM n d N f28 (σ 29)) (hD : inD d x0 y0 x1 y1) (kk : Pr (rmf n d N (innM d f28) x0 y0 x1 y1)) : wp_M_roomAt nn σ x0 y0 x1 y1 Pr := by
  obtain ⟨⟨a1, a2, a3, a4, a5, a6, a7⟩, -⟩ := id hP
  have hdN := dN_in ⟨a3, a4⟩ ⟨a5, a6⟩
  obtain ⟨b1, b2, b3, b4, b5, b6, b7, b8⟩ := id hD
  have hJ := innM_JO d f28
  have hL := lp2 (lp_M_roomAt_7 nn x0 y0 x1 y1 σ (fun _ v => v = rmf n d N (innM d f28) x0 y0 x1 y1)) (fun v1 v2 => 0 ≤ v1 ∧ v1 ≤ n ∧ (0 ≤ v2 ∧ v2 ≤ 1000000) ∧ v2 = rmF d N (innM d f28) x0 y0 x1 y1 v1.toNat) (fun v1 _ => (n - v1).toNat) ?_ 0 1000000 ⟨by omega, by omega, by omega, rfl⟩
  · obtain ⟨k1, h⟩ := hL
    exact ⟨_, k1, h, fun v3 v4 q => q ▸ kk⟩
  · rintro m v1 v2 ⟨h1, h2, h3, h4⟩ ih
    refine ⟨⟨by omega, by omega⟩, by rw [hg.1]; exact ⟨by omega, by omega⟩, fun h => ?_, fun h => ?_⟩
    · rw [hg.1] at h
      rw [h4, show v1 = n by omega]; rfl
    · rw [hg.1] at h
      rw [hg.2.2]
      have hk : 0 ≤ v1 ∧ v1 < n := by omega
      have r1 := plc_rng (x0 := x0) (x1 := x1) ⟨a5, a6⟩ a7 hk ⟨b1, b2⟩ ⟨b5, b6⟩
      have r2 := plc_rng (x0 := y0) (x1 := y1) ⟨a5, a6⟩ a7 hk ⟨b3, b4⟩ ⟨b7, b8⟩
      have e29 := hS v1 _ _ hk.1 hk.2 r1.1 r1.2 r2.1 r2.2
      have hn := rm_near hP hJ hk hD
      rintro v5 rfl v6 rfl
      rw [e29]
      refine ⟨⟨by omega, by omega, by omega⟩, ex_ls ⟨by omega, by omega⟩ ⟨by omega, by omega⟩ (fun r ra rb rc => ?_)⟩
      rintro v7 rfl
      refine ih _ _ ⟨by omega, by omega, by omega, ?_⟩ (by omega)
      rw [rmS h1, ← h4]
      split <;> omega
/-! numbers of axes -/
theorem dm_succ {D c : Int} (hD : 0 < D) : ((c + 1) % D = c % D + 1 ∧ (c + 1) / D = c / D ∧ c % D + 1 < D) ∨ ((c + 1) % D = 0 ∧ (c + 1) / D = c / D + 1 ∧ c % D + 1 = D) := by
  have h1 := Int.emod_nonneg c (show D ≠ 0 by omega)
  have h2 := Int.emod_lt_of_pos c hD
  have h3 : c % D + D * (c / D) = c := Int.emod_add_mul_ediv c D
  by_cases h : c % D + 1 < D
  · left
    have := (Int.ediv_emod_unique (a := c + 1) (r := c % D + 1) (q := c / D) hD).mpr ⟨by omega, by omega, h⟩
    exact ⟨this.2, this.1, h⟩
  · right
    have := (Int.ediv_emod_unique (a := c + 1) (r := 0) (q := c / D + 1) hD).mpr ⟨by rw [Int.mul_add, Int.mul_one]; omega, by omega, hD⟩
    exact ⟨this.2, this.1, by omega⟩
theorem PB.step {d c : Int} {F : Int → Int → Int → Int → Int} {R a0 a1 a2 a3 : Int} (hd : 1 ≤ d) (h : PB d F R a0 a1 a2 a3 (c / (d + 1) / (d + 1) / (d + 1)) (c / (d + 1) / (d + 1) % (d + 1)) (c / (d + 1) % (d + 1)) (c % (d + 1) + 1)) : PB d F R a0 a1 a2 a3 ((c + 1) / (d + 1) / (d + 1) / (d + 1)) ((c + 1) / (d + 1) / (d + 1) % (d + 1)) ((c + 1) / (d + 1) % (d + 1)) ((c + 1) % (d + 1)) := by
  refine h.mono (fun x0 y0 x1 y1 hi hl => ?_)
  have s1 := dm_succ (D := d + 1) (c := c) (by omega)
  have s2 := dm_succ (D := d + 1) (c := c / (d + 1)) (by omega)
  have s3 := dm_succ (D := d + 1) (c := c / (d + 1) / (d + 1)) (by omega)
  rcases s1 with ⟨p1, p2, p3⟩ | ⟨p1, p2, p3⟩
  · rw [p1, p2] at hl
    exact hl
  · rw [p1, p2] at hl
    rcases s2 with ⟨q1, q2, q3⟩ | ⟨q1, q2, q3⟩
    · rw [q1, q2] at hl
      unfold lx inD at *
      omega
    · rw [q1, q2] at hl
      rcases s3 with ⟨t1, t2, t3⟩ | ⟨t1, t2, t3⟩
      · rw [t1, t2] at hl
        unfold lx inD at *
        omega
      · rw [t1, t2] at hl
        unfold lx inD at *
        omega
theorem dig_in {d c : Int} (hd : 1 ≤ d ∧ d ≤ 10) (h0 : 0 ≤ c) (h1 : c < (((d + 1) * (d + 1)) * (d + 1)) * (d + 1)) : inD d (c / (d + 1) / (d + 1) / (d + 1)) (c / (d + 1) / (d + 1) % (d + 1)) (c / (d + 1) % (d + 1)) (c % (d + 1)) ∧ (0 ≤ c / (d + 1) ∧ c / (d + 1) ≤ c) ∧ (0 ≤ c / (d + 1) / (d + 1) ∧ c / (d + 1) / (d + 1) ≤ c) := by
  have hD : 0 < d + 1 := by omega
  have e1 : 0 ≤ c / (d + 1) := Int.ediv_nonneg h0 (by omega)
  have e2 : 0 ≤ c / (d + 1) / (d + 1) := Int.ediv_nonneg e1 (by omega)
  have e3 : 0 ≤ c / (d + 1) / (d + 1) / (d + 1) := Int.ediv_nonneg e2 (by omega)
  have f1 : c / (d + 1) < ((d + 1) * (d + 1)) * (d + 1) := Int.ediv_lt_of_lt_mul hD h1
  have f2 : c / (d + 1) / (d + 1) < (d + 1) * (d + 1) := Int.ediv_lt_of_lt_mul hD f1
  have f3 : c / (d + 1) / (d + 1) / (d + 1) < d + 1 := Int.ediv_lt_of_lt_mul hD f2
  have l1 : c / (d + 1) ≤ c := Int.ediv_le_self _ h0
  have l2 : c / (d + 1) / (d + 1) ≤ c / (d + 1) := Int.ediv_le_self _ e1
  have m1 := Int.emod_nonneg c (show d + 1 ≠ 0 by omega)
  have m2 := Int.emod_lt_of_pos c hD
  have m3 := Int.emod_nonneg (c / (d + 1)) (show d + 1 ≠ 0 by omega)
  have m4 := Int.emod_lt_of_pos (c / (d + 1)) hD
  have m5 := Int.emod_nonneg (c / (d + 1) / (d + 1)) (show d + 1 ≠ 0 by omega)
  have m6 := Int.emod_lt_of_pos (c / (d + 1) / (d + 1)) hD
  exact ⟨⟨e3, by omega, m5, by omega, m3, by omega, m1, by omega⟩, ⟨e1, l1⟩, e2, by omega⟩
theorem d4_in {d : Int} (hd : 1 ≤ d ∧ d ≤ 10) : 0 ≤ (((d + 1) * (d + 1)) * (d + 1)) * (d + 1) ∧ (((d + 1) * (d + 1)) * (d + 1)) * (d + 1) ≤ 14641 := by
  have h1 : (d + 1) * (d + 1) ≤ 11 * 11 := Int.mul_le_mul (by omega) (by omega) (by omega) (by decide)
  have h0 : 0 ≤ (d + 1) * (d + 1) := Int.mul_nonneg (by omega) (by omega)
  have h2 : ((d + 1) * (d + 1)) * (d + 1) ≤ 11 * 11 * 11 := Int.mul_le_mul h1 (by omega) (by omega) (by decide)
  have h20 : 0 ≤ ((d + 1) * (d + 1)) * (d + 1) := Int.mul_nonneg h0 (by omega)
  have h3 : (((d + 1) * (d + 1)) * (d + 1)) * (d + 1) ≤ 11 * 11 * 11 * 11 := Int.mul_le_mul h2 (by omega) (by omega) (by decide)
  exact ⟨Int.mul_nonneg h20 (by omega), by omega⟩
def FrK (σ s : kM) : Prop := (∀ c, c ≠ 27 → c ≠ 29 → c ≠ 30 → s c = σ c) ∧ ∀ j, j ≠ 6 → j ≠ 7 → s 27 j = σ 27 j
theorem m_know {nn : Nat → Nat} {σ : kM} {n d N : Int} {Pr : kM → Prop} (hP : Par n d N nn) (hg : GeoM n d N (σ 27)) (hb : BitM n d (σ 28)) (hM : KnM n d N (σ 28) (σ 27 6) (σ 27 7) (σ 29) (σ 30)) (kk : ∀ s, FrK σ s → s 27 6 = 1 → SqM n d N (σ 28) (s 29) → BestP d (rmf n d N (innM d (σ 28))) (s 27 7) (s 30 0) (s 30 1) (s 30 2) (s 30 3) → Pr s) : wp_M_know nn σ Pr := by
  obtain ⟨⟨a1, a2, a3, a4, a5, a6, a7⟩, -⟩ := id hP
  obtain ⟨hM1, hM2⟩ := hM
  have hJ := innM_JO d (σ 28)
  refine ⟨⟨by omega, by omega⟩, fun h => ?_, fun h => kk σ ⟨fun _ _ _ _ => rfl, fun _ _ _ => rfl⟩ (by omega) (hM2 (by omega)).1 (hM2 (by omega)).2⟩
  refine m_squares hP hg hb (fun s2 hf2 hS => ?_)
  rintro s3 rfl
  have e27 : s2 27 = σ 27 := hf2 27 (by decide)
  have hv3 : (va_up s2 27 (va_up (s2 27) 7 (-1))) 27 2 = d := by
    show s2 27 2 = d
    rw [e27]; exact hg.2.1
  rw [hv3]
  rintro v3 rfl
  have h4 := d4_in ⟨a3, a4⟩
  have hL := lp2 (lp_M_know_104 nn (d + 1) (fun _ s => FrK σ s ∧ SqM n d N (σ 28) (s 29) ∧ BestP d (rmf n d N (innM d (σ 28))) (s 27 7) (s 30 0) (s 30 1) (s 30 2) (s 30 3))) (fun c s => 0 ≤ c ∧ c ≤ (((d + 1) * (d + 1)) * (d + 1)) * (d + 1) ∧ FrK σ s ∧ SqM n d N (σ 28) (s 29) ∧ ((c = 0 ∧ s 27 7 = -1) ∨ PB d (rmf n d N (innM d (σ 28))) (s 27 7) (s 30 0) (s 30 1) (s 30 2) (s 30 3) (c / (d + 1) / (d + 1) / (d + 1)) (c / (d + 1) / (d + 1) % (d + 1)) (c / (d + 1) % (d + 1)) (c % (d + 1)))) (fun c _ => ((((d + 1) * (d + 1)) * (d + 1)) * (d + 1) - c).toNat) ?_ 0 (va_up s2 27 (va_up (s2 27) 7 (-1))) ⟨by omega, h4.1, ⟨fun c c1 c2 _ => by rw [up_ne _ _ c1]; exact hf2 c c2, fun j j1 j2 => by rw [up_same, up_ne _ _ j2, e27]⟩, hS, Or.inl ⟨rfl, rfl⟩⟩
  · obtain ⟨k1, hk⟩ := hL
    refine ⟨_, k1, hk, ?_⟩
    rintro v5 s5 ⟨q1, q2, q3⟩ s6 rfl
    exact kk _ ⟨fun c c1 c2 c3 => by rw [up_ne _ _ c1]; exact q1.1 c c1 c2 c3, fun j j1 j2 => by rw [up_same, up_ne _ _ j1]; exact q1.2 j j1 j2⟩ rfl q2 q3
  · rintro m c s4 ⟨h1, h2, hf, hs, hp⟩ ih
    have hbd : -1 ≤ s4 27 7 ∧ s4 27 7 ≤ 225 := by
      rcases hp with ⟨-, e⟩ | hp
      · omega
      · have := rm_in hP hJ hp.1
        rw [hp.2.1] at this
        omega
    refine ⟨⟨by omega, by omega⟩, ⟨by omega, by omega⟩, fun h => ?_, fun h => ?_⟩
    · refine ⟨hf, hs, ?_⟩
      rcases hp with ⟨e, -⟩ | hp
      · have : 1 * 1 ≤ (d + 1) * (d + 1) := Int.mul_le_mul (by omega) (by omega) (by decide) (by omega)
        have : 1 * 1 ≤ ((d + 1) * (d + 1)) * (d + 1) := Int.mul_le_mul (by omega) (by omega) (by decide) (by omega)
        have : 1 * 1 ≤ (((d + 1) * (d + 1)) * (d + 1)) * (d + 1) := Int.mul_le_mul (by omega) (by omega) (by decide) (by omega)
        omega
      · have ec : c = (((d + 1) * (d + 1)) * (d + 1)) * (d + 1) := by omega
        have e0 : c / (d + 1) / (d + 1) / (d + 1) = d + 1 := by
          rw [ec, Int.mul_ediv_cancel _ (by omega), Int.mul_ediv_cancel _ (by omega), Int.mul_ediv_cancel _ (by omega)]
        rw [e0] at hp
        exact (hp.mono (fun x0 y0 x1 y1 hd hl => by unfold lx inD at *; omega)).done
    · obtain ⟨hD, ⟨l1, l2⟩, l3, l4⟩ := dig_in ⟨a3, a4⟩ h1 (by omega)
      have w1 : iR c ∧ iR (d + 1) ∧ 0 ≤ c ∧ 0 < d + 1 := ⟨⟨by omega, by omega⟩, ⟨by omega, by omega⟩, h1, by omega⟩
      have w2 : iR (c / (d + 1)) ∧ iR (d + 1) ∧ 0 ≤ c / (d + 1) ∧ 0 < d + 1 := ⟨⟨by omega, by omega⟩, ⟨by omega, by omega⟩, l1, by omega⟩
      have w3 : iR (c / (d + 1) / (d + 1)) ∧ iR (d + 1) ∧ 0 ≤ c / (d + 1) / (d + 1) ∧ 0 < d + 1 := ⟨⟨by omega, by omega⟩, ⟨by omega, by omega⟩, l3, by omega⟩
      refine ⟨w1, ?_⟩
      rintro v6 rfl
      refine ⟨w1, w2, ?_⟩
      rintro v7 rfl
      refine ⟨w1, w2, w3, ?_⟩
      rintro v8 rfl
      refine ⟨w1, w2, w3, ?_⟩
      rintro v9 rfl
      have eg : GeoM n d N (s4 27) := ⟨(hf.2 1 (by decide) (by decide)).trans hg.1, (hf.2 2 (by decide) (by decide)).trans hg.2.1, (hf.2 3 (by decide) (by decide)).trans hg.2.2⟩
      refine ⟨fun r => r = _, m_roomAt (Pr := fun r => r = _) hP eg hs hD rfl, ?_⟩
      rintro r1 rfl
      have hr := rm_in hP hJ hD
      refine ⟨⟨by omega, by omega⟩, ⟨by omega, by omega⟩, fun h5 => ?_, fun h5 => ?_⟩
      · rintro v10 rfl
        refine ih _ _ ⟨by omega, by omega, hf, hs, Or.inr ?_⟩ (by omega)
        rcases hp with ⟨-, e⟩ | hp
        · omega
        · exact (hp.skip h5).step a3
      · rintro t7 rfl t8 rfl t9 rfl t10 rfl t11 rfl v11 rfl
        refine ih _ _ ⟨by omega, by omega, ⟨fun c c1 c2 c3 => ?_, fun j j1 j2 => ?_⟩, hs, Or.inr ?_⟩ (by omega)
        · rw [up_ne _ _ c3, up_ne _ _ c3, up_ne _ _ c3, up_ne _ _ c3, up_ne _ _ c1]; exact hf.1 c c1 c2 c3
        · rw [up_ne _ _ (by decide), up_ne _ _ (by decide), up_ne _ _ (by decide), up_ne _ _ (by decide), up_same, up_ne _ _ j2]; exact hf.2 j j1 j2
        · rcases hp with ⟨e, e7⟩ | hp
          · have hq : PB d (rmf n d N (innM d (σ 28))) (rmf n d N (innM d (σ 28)) (c / (d + 1) / (d + 1) / (d + 1)) (c / (d + 1) / (d + 1) % (d + 1)) (c / (d + 1) % (d + 1)) (c % (d + 1))) (c / (d + 1) / (d + 1) / (d + 1)) (c / (d + 1) / (d + 1) % (d + 1)) (c / (d + 1) % (d + 1)) (c % (d + 1)) (c / (d + 1) / (d + 1) / (d + 1)) (c / (d + 1) / (d + 1) % (d + 1)) (c / (d + 1) % (d + 1)) (c % (d + 1) + 1) := by
              have z : c / (d + 1) / (d + 1) / (d + 1) = 0 ∧ c / (d + 1) / (d + 1) % (d + 1) = 0 ∧ c / (d + 1) % (d + 1) = 0 ∧ c % (d + 1) = 0 := by
                rw [e]; simp
              obtain ⟨z0, z1, z2, z3⟩ := z
              rw [z0, z1, z2, z3] at hD ⊢
              refine ⟨hD, rfl, fun x0 y0 x1 y1 hd => ⟨fun hl => ?_, fun hl => ?_⟩⟩
              · rcases lx_succ hl with h | ⟨rfl, rfl, rfl, rfl⟩
                · unfold lx inD at *; omega
                · exact Int.le_refl _
              · unfold lx inD at *; omega
            exact hq.step a3
          · exact (hp.take hD (by omega)).step a3
