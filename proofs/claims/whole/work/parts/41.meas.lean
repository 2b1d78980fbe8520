/-! the class measures a slice -/
def GeoC (n d N : Int) (a : Nat → Int) : Prop := a 0 = n ∧ a 1 = d ∧ a 2 = N ∧ a 3 = d * N + 1 ∧ a 4 = d + 2
def BitC (n d : Int) (f8 : Nat → Int) : Prop := ∀ k x y : Int, 0 ≤ k → k < n → 0 ≤ x → x < d → 0 ≤ y → y < d → (f8 (ic d k x y).toNat = 0 ∨ f8 (ic d k x y).toNat = 1)
theorem ex_hcA {nn : Nat → Nat} {σ : kM} {n d N k x y : Int} {A B : Prop} (hP : Par n d N nn) (hg : GeoC n d N (σ 1)) (hk : iR k) (hx : iR x) (hy : iR y) (h1 : (0 ≤ k ∧ k < n) → (0 ≤ x ∧ x < d) → (0 ≤ y ∧ y < d) → B) (h0 : ¬ ((0 ≤ k ∧ k < n) ∧ (0 ≤ x ∧ x < d) ∧ (0 ≤ y ∧ y < d)) → A) : ∃ P : Int → Prop, wp_S_hasCell nn σ k x y P ∧ ∀ r : Int, P r → iR r ∧ ((r = 0 → A) ∧ (¬ r = 0 → B)) := by
  obtain ⟨⟨a1, a2, a3, a4, -⟩, -⟩ := hP
  obtain ⟨g0, g1, -⟩ := hg
  refine ⟨fun r => (r = 0 ∧ A) ∨ (r = 1 ∧ B), ?_, ?_⟩
  · unfold wp_S_hasCell
    rw [g0, g1]
    exact ex_wA hk iR_0 ⟨by omega, by omega⟩ (fun a b => ex_wA hx iR_0 ⟨by omega, by omega⟩ (fun c e => ex_wA hy iR_0 ⟨by omega, by omega⟩ (fun f g => Or.inr ⟨rfl, h1 ⟨a, by omega⟩ ⟨c, by omega⟩ ⟨f, by omega⟩⟩) (fun h => Or.inl ⟨rfl, h0 (by omega)⟩)) (fun h => Or.inl ⟨rfl, h0 (by omega)⟩)) (fun h => Or.inl ⟨rfl, h0 (by omega)⟩)
  · rintro r (⟨rfl, h⟩ | ⟨rfl, h⟩)
    · exact ⟨⟨by decide, by decide⟩, fun _ => h, fun h => absurd rfl h⟩
    · exact ⟨⟨by decide, by decide⟩, fun h => absurd h (by decide), fun _ => h⟩
/-- a cell's bit, the rim's with it -/
theorem bit_in {n d k x y : Int} {f : Nat → Int} (hb : BitC n d f) (hk : 0 ≤ k ∧ k < n) : inn d f k x y = 0 ∨ inn d f k x y = 1 := by
  unfold inn
  by_cases hh : 0 ≤ x ∧ x < d ∧ 0 ≤ y ∧ y < d
  · rw [if_pos hh]
    exact hb k x y hk.1 hk.2 hh.1 hh.2.1 hh.2.2.1 hh.2.2.2
  · rw [if_neg hh]
    exact Or.inl rfl
theorem s_gap {nn : Nat → Nat} {σ : kM} {n d N p c : Int} {Pr : Int → Prop} (hP : Par n d N nn) (hg : GeoC n d N (σ 1)) (hp : 0 ≤ p ∧ p ≤ d * N) (hc : -1 ≤ c ∧ c ≤ d) (k : Pr (gp N p c)) : wp_S_gap nn σ p c Pr := by
  obtain ⟨⟨a1, a2, a3, a4, a5, a6, -⟩, -⟩ := id hP
  obtain ⟨g0, g1, g2, -⟩ := hg
  have h0 := dN_in ⟨a3, a4⟩ ⟨a5, a6⟩
  have h1 : c * N ≤ d * N := Int.mul_le_mul_of_nonneg_right hc.2 (by omega)
  have h2 : (-1) * N ≤ c * N := Int.mul_le_mul_of_nonneg_right hc.1 (by omega)
  unfold wp_S_gap
  rw [g2]
  rintro v1 rfl v2 rfl
  unfold gp at k
  refine ⟨⟨by omega, by omega⟩, ⟨by omega, by omega⟩, fun q => ⟨⟨by omega, by omega⟩, ⟨by omega, by omega⟩, fun q2 => ?_, fun q2 => ?_⟩, fun q => ?_⟩
  · rw [if_neg (by omega), if_neg (by omega)] at k; exact k
  · rw [if_neg (by omega), if_pos (by omega)] at k; exact k
  · rw [if_pos (by omega)] at k; exact k
theorem colS0 {d N : Int} {I : Int → Int → Int} {x py v : Int} (hv : -1 ≤ v) (h : I x v = 0) : colF d N I x py (v + 1 + 1).toNat = if gp N py v * gp N py v < colF d N I x py (v + 1).toNat then gp N py v * gp N py v else colF d N I x py (v + 1).toNat := by
  have e : (v + 1 + 1).toNat = (v + 1).toNat + 1 := by omega
  have e2 : (((v + 1).toNat : Nat) : Int) - 1 = v := by omega
  rw [e]
  unfold colF
  rw [mnT]
  simp only [e2, h, if_true]
theorem colS1 {d N : Int} {I : Int → Int → Int} {x py v : Int} (hv : -1 ≤ v) (h : ¬ I x v = 0) : colF d N I x py (v + 1 + 1).toNat = colF d N I x py (v + 1).toNat := by
  have e : (v + 1 + 1).toNat = (v + 1).toNat + 1 := by omega
  have e2 : (((v + 1).toNat : Nat) : Int) - 1 = v := by omega
  rw [e]
  unfold colF
  rw [mnT]
  simp only [e2, h, if_false]
  have := mnT_le_b 2147483647 (fun j : Nat => if I x ((j : Int) - 1) = 0 then gp N py ((j : Int) - 1) * gp N py ((j : Int) - 1) else 2147483647) (v + 1).toNat
  rw [if_neg (by omega)]
theorem colF_in {d N : Int} {I : Int → Int → Int} {x py : Int} (m : Nat) : 0 ≤ colF d N I x py m ∧ colF d N I x py m ≤ 2147483647 := by
  refine ⟨mnT_ge (by decide) (fun j _ => ?_), mnT_le_b _ _ _⟩
  split
  · exact sq_0 _
  · decide
theorem s_col {nn : Nat → Nat} {σ : kM} {n d N k x py : Int} {Pr : Int → Prop} (hP : Par n d N nn) (hg : GeoC n d N (σ 1)) (hb : BitC n d (σ 8)) (hr : RimC n d (σ 8)) (hk : 0 ≤ k ∧ k < n) (hx : -1 ≤ x ∧ x ≤ d) (hp : 0 ≤ py ∧ py ≤ d * N) (kk : Pr (col d N (inn d (σ 8) k) x py)) : wp_S_nearestInColumnOf nn σ k x py Pr := by
  obtain ⟨⟨a1, a2, a3, a4, a5, a6, -⟩, n8, -⟩ := id hP
  have hnd := nr_in (n := n) (r := d + 2) ⟨a1, a2⟩ ⟨by omega, by omega⟩
  obtain ⟨g0, g1, g2, -, g4⟩ := id hg
  have hL := lp2 (lp_S_nearestInColumnOf_7 nn k x py σ (fun _ v => v = col d N (inn d (σ 8) k) x py)) (fun v1 v2 => -1 ≤ v1 ∧ v1 ≤ d + 1 ∧ v2 = colF d N (inn d (σ 8) k) x py (v1 + 1).toNat) (fun v1 _ => (d + 1 - v1).toNat) ?_ (-1) 2147483647 ⟨by omega, by omega, rfl⟩
  · obtain ⟨k1, h⟩ := hL
    exact ⟨_, k1, h, fun v3 v4 e => e ▸ kk⟩
  · rintro m v1 v2 ⟨h1, h2, rfl⟩ ih
    have hin := colF_in (d := d) (N := N) (I := inn d (σ 8) k) (x := x) (py := py) (v1 + 1).toNat
    refine ⟨⟨by omega, by omega⟩, by rw [g1]; exact ⟨by omega, by omega⟩, fun h => ?_, fun h => ?_⟩
    · rw [show v1 + 1 = d + 2 by omega]; rfl
    · have hy : -1 ≤ v1 ∧ v1 ≤ d := by omega
      have hi := ic_in (n := n) (d := d) hk hx hy
      have e : (((((k * (d + 2)) + v1) + 1) * (d + 2)) + x) + 1 = ic d k x v1 := rfl
      have hbb := bit_in (x := x) (y := v1) hb hk
      rw [g4, e, inn_at hr hk hx hy]
      refine ⟨⟨hi.1, by omega, by omega⟩, ⟨by omega, by omega⟩, fun h3 => ?_, fun h3 => ?_⟩
      · rintro v5 rfl
        exact ih _ _ ⟨by omega, by omega, (colS1 h1 h3).symm⟩ (by omega)
      · refine ⟨fun r => r = gp N py v1, s_gap hP hg hp hy rfl, ?_⟩
        rintro r2 rfl
        have hs := gsq_le ⟨a3, a4⟩ ⟨a5, a6⟩ hp hy
        refine ⟨⟨by omega, by omega⟩, ⟨by omega, by omega⟩, ?_⟩
        rintro v6 rfl v7 rfl
        exact ih _ _ ⟨by omega, by omega, (colS0 h1 h3).symm⟩ (by omega)
theorem nearS {d N : Int} {I : Int → Int → Int} {px py v : Int} (hv : -1 ≤ v) : nearF d N I px py (v + 1 + 1).toNat = if gp N px v * gp N px v + col d N I v py < nearF d N I px py (v + 1).toNat then gp N px v * gp N px v + col d N I v py else nearF d N I px py (v + 1).toNat := by
  have e : (v + 1 + 1).toNat = (v + 1).toNat + 1 := by omega
  have e2 : (((v + 1).toNat : Nat) : Int) - 1 = v := by omega
  rw [e]
  unfold nearF
  rw [mnT]
  simp only [e2]
theorem nearF_in {d N : Int} {I : Int → Int → Int} {px py : Int} (m : Nat) : 0 ≤ nearF d N I px py m ∧ nearF d N I px py m ≤ 2147483647 := by
  refine ⟨mnT_ge (by decide) (fun j _ => ?_), mnT_le_b _ _ _⟩
  have h1 := sq_0 (gp N px ((j : Int) - 1))
  have h2 := col_ge (d := d) (N := N) (I := I) (x := (j : Int) - 1) (py := py)
  omega
theorem s_near {nn : Nat → Nat} {σ : kM} {n d N px py : Int} {I : Int → Int → Int} {Pr : Int → Prop} (hP : Par n d N nn) (hg : GeoC n d N (σ 1)) (hI : ∀ x y, ¬ (0 ≤ x ∧ x < d ∧ 0 ≤ y ∧ y < d) → I x y = 0) (hpx : 0 ≤ px ∧ px ≤ d * N) (hp : 0 ≤ py ∧ py ≤ d * N) (hc : ∀ x, -1 ≤ x → x ≤ d → σ 11 (x + 1).toNat = col d N I x py) (kk : Pr (near d N I px py)) : wp_S_nearestOverColumns nn σ px Pr := by
  obtain ⟨⟨a1, a2, a3, a4, a5, a6, -⟩, -, -, -, n11⟩ := id hP
  obtain ⟨g0, g1, g2, -⟩ := id hg
  have hL := lp2 (lp_S_nearestOverColumns_5 nn px σ (fun _ v => v = near d N I px py)) (fun v1 v2 => -1 ≤ v1 ∧ v1 ≤ d + 1 ∧ v2 = nearF d N I px py (v1 + 1).toNat) (fun v1 _ => (d + 1 - v1).toNat) ?_ (-1) 2147483647 ⟨by omega, by omega, rfl⟩
  · obtain ⟨k1, h⟩ := hL
    exact ⟨_, k1, h, fun v3 v4 e => e ▸ kk⟩
  · rintro m v1 v2 ⟨h1, h2, rfl⟩ ih
    have hin := nearF_in (d := d) (N := N) (I := I) (px := px) (py := py) (v1 + 1).toNat
    refine ⟨⟨by omega, by omega⟩, by rw [g1]; exact ⟨by omega, by omega⟩, fun h => ?_, fun h => ?_⟩
    · rw [show v1 + 1 = d + 2 by omega]; rfl
    · have hy : -1 ≤ v1 ∧ v1 ≤ d := by omega
      refine ⟨fun r => r = gp N px v1, s_gap hP hg hpx hy rfl, ?_⟩
      rintro r1 rfl
      have hs := gsq_le ⟨a3, a4⟩ ⟨a5, a6⟩ hpx hy
      have hcm := (col_mem (N := N) (I := I) (x := v1) ⟨a3, a4⟩ ⟨a5, a6⟩ hp (hI _ _ (by omega))).2
      have hcg := col_ge (d := d) (N := N) (I := I) (x := v1) (py := py)
      rw [hc v1 hy.1 hy.2]
      refine ⟨⟨by omega, by omega, by omega⟩, ⟨by omega, by omega⟩, ⟨by omega, by omega⟩, ?_⟩
      rintro v5 rfl v6 rfl
      exact ih _ _ ⟨by omega, by omega, (nearS h1).symm⟩ (by omega)
/-- what stands in the row of the nearest, slice k being measured up to the place v5 of the line v1 -/
def W9 (n d N k : Int) (I : Int → Int → Int) (f0 f : Nat → Int) (v1 v5 : Int) : Prop := ∀ k' py px : Int, 0 ≤ k' → k' < n → 0 ≤ py → py ≤ d * N → 0 ≤ px → px ≤ d * N → f ((k' * (d * N + 1) + py) * (d * N + 1) + px).toNat = if k' = k ∧ (py < v1 ∨ (py = v1 ∧ px < v5)) then near d N I px py else f0 ((k' * (d * N + 1) + py) * (d * N + 1) + px).toNat
theorem W9.put {n d N k : Int} {I : Int → Int → Int} {f0 f : Nat → Int} {v1 v5 : Int} (h : W9 n d N k I f0 f v1 v5) (hk : 0 ≤ k ∧ k < n) (h1 : 0 ≤ v1 ∧ v1 ≤ d * N) (h5 : 0 ≤ v5 ∧ v5 ≤ d * N) : W9 n d N k I f0 (va_up f ((k * (d * N + 1) + v1) * (d * N + 1) + v5).toNat (near d N I v5 v1)) v1 (v5 + 1) := by
  intro k' py px a1 a2 a3 a4 a5 a6
  by_cases e : ((k' * (d * N + 1) + py) * (d * N + 1) + px).toNat = ((k * (d * N + 1) + v1) * (d * N + 1) + v5).toNat
  · obtain ⟨rfl, rfl, rfl⟩ := ix_inj a1 hk.1 ⟨a3, by omega⟩ ⟨a5, by omega⟩ ⟨h1.1, by omega⟩ ⟨h5.1, by omega⟩ e
    rw [up_same, if_pos ⟨rfl, Or.inr ⟨rfl, by omega⟩⟩]
  · rw [up_ne _ _ e, h k' py px a1 a2 a3 a4 a5 a6]
    have hne : ¬ (k' = k ∧ py = v1 ∧ px = v5) := fun ⟨b1, b2, b3⟩ => e (by rw [b1, b2, b3])
    by_cases c : k' = k ∧ (py < v1 ∨ (py = v1 ∧ px < v5))
    · rw [if_pos c, if_pos ⟨c.1, by omega⟩]
    · rw [if_neg c, if_neg (by omega)]
theorem W9.line {n d N k : Int} {I : Int → Int → Int} {f0 f : Nat → Int} {v1 : Int} (h : W9 n d N k I f0 f v1 (d * N + 1)) : W9 n d N k I f0 f (v1 + 1) 0 := by
  intro k' py px a1 a2 a3 a4 a5 a6
  rw [h k' py px a1 a2 a3 a4 a5 a6]
  by_cases c : k' = k ∧ (py < v1 ∨ (py = v1 ∧ px < d * N + 1))
  · rw [if_pos c, if_pos ⟨c.1, by omega⟩]
  · rw [if_neg c, if_neg (by omega)]
def Fr9 (σ s : kM) : Prop := ∀ c, c ≠ 9 → c ≠ 11 → s c = σ c
theorem s_measure {nn : Nat → Nat} {σ : kM} {n d N k : Int} {Pr : kM → Prop} (hP : Par n d N nn) (hg : GeoC n d N (σ 1)) (hb : BitC n d (σ 8)) (hr : RimC n d (σ 8)) (hk : 0 ≤ k ∧ k < n) (kk : ∀ s, Fr9 σ s → W9 n d N k (inn d (σ 8) k) (σ 9) (s 9) (d * N + 1) 0 → Pr s) : wp_S_measure nn σ k Pr := by
  obtain ⟨⟨a1, a2, a3, a4, a5, a6, -⟩, -, n9, -, n11⟩ := id hP
  have hdN := dN_in ⟨a3, a4⟩ ⟨a5, a6⟩
  have hnr := nr_in (n := n) (r := d * N + 1) ⟨a1, a2⟩ ⟨by omega, by omega⟩
  have hL := lp2 (lp_S_measure_2 nn k (fun v s => Fr9 σ s ∧ W9 n d N k (inn d (σ 8) k) (σ 9) (s 9) (d * N + 1) 0)) (fun v1 s => 0 ≤ v1 ∧ v1 ≤ d * N + 1 ∧ Fr9 σ s ∧ W9 n d N k (inn d (σ 8) k) (σ 9) (s 9) v1 0) (fun v1 _ => (d * N + 1 - v1).toNat) ?_ 0 σ ⟨by omega, by omega, fun _ _ _ => rfl, fun k' py px b1 b2 b3 b4 b5 b6 => (if_neg (by omega)).symm⟩
  · obtain ⟨k1, h⟩ := hL
    exact ⟨_, k1, h, fun v s q => kk s q.1 q.2⟩
  · rintro m v1 s1 ⟨h1, h2, hf, hw⟩ ih
    have es : s1 1 = σ 1 := hf 1 (by decide) (by decide)
    refine ⟨⟨by omega, by omega⟩, by rw [es, hg.2.2.2.1]; exact ⟨by omega, by omega⟩, fun h => ?_, fun h => ?_⟩
    · rw [es, hg.2.2.2.1] at h
      rw [show v1 = d * N + 1 by omega] at hw
      exact ⟨hf, hw⟩
    · rw [es, hg.2.2.2.1] at h
      have hpy : 0 ≤ v1 ∧ v1 ≤ d * N := by omega
      -- the columns
      have hL2 := lp2 (lp_S_measure_12 nn k v1 (fun v s => Fr9 σ s ∧ s 9 = s1 9 ∧ ∀ x, -1 ≤ x → x ≤ d → s 11 (x + 1).toNat = col d N (inn d (σ 8) k) x v1)) (fun v3 s => -1 ≤ v3 ∧ v3 ≤ d + 1 ∧ Fr9 σ s ∧ s 9 = s1 9 ∧ ∀ x, -1 ≤ x → x < v3 → s 11 (x + 1).toNat = col d N (inn d (σ 8) k) x v1) (fun v3 _ => (d + 1 - v3).toNat) ?_ (-1) s1 ⟨by omega, by omega, hf, rfl, fun x q1 q2 => by omega⟩
      · obtain ⟨k2, hk2⟩ := hL2
        refine ⟨_, k2, hk2, ?_⟩
        rintro v4 s4 ⟨hf4, h94, hc4⟩
        -- the places of the line
        have hL3 := lp2 (lp_S_measure_43 nn k v1 (fun v s => Fr9 σ s ∧ W9 n d N k (inn d (σ 8) k) (σ 9) (s 9) (v1 + 1) 0)) (fun v5 s => 0 ≤ v5 ∧ v5 ≤ d * N + 1 ∧ Fr9 σ s ∧ s 11 = s4 11 ∧ W9 n d N k (inn d (σ 8) k) (σ 9) (s 9) v1 v5) (fun v5 _ => (d * N + 1 - v5).toNat) ?_ 0 s4 ⟨by omega, by omega, hf4, rfl, by rw [h94]; exact hw⟩
        · obtain ⟨k3, hk3⟩ := hL3
          refine ⟨_, k3, hk3, ?_⟩
          rintro v6 s6 ⟨q1, q2⟩ v7 rfl
          exact ih _ _ ⟨by omega, by omega, q1, q2⟩ (by omega)
        · rintro m5 v5 s5 ⟨e1, e2, hf5, h115, hw5⟩ ih5
          have es5 : s5 1 = σ 1 := hf5 1 (by decide) (by decide)
          refine ⟨⟨by omega, by omega⟩, by rw [es5, hg.2.2.2.1]; exact ⟨by omega, by omega⟩, fun h => ?_, fun h => ?_⟩
          · rw [es5, hg.2.2.2.1] at h
            rw [show v5 = d * N + 1 by omega] at hw5
            exact ⟨hf5, hw5.line⟩
          · rw [es5, hg.2.2.2.1] at h
            have hpx : 0 ≤ v5 ∧ v5 ≤ d * N := by omega
            refine ⟨fun r => r = near d N (inn d (σ 8) k) v5 v1, s_near (σ := s5) hP (by rw [es5]; exact hg) (inn_out d (σ 8) k) hpx hpy (fun x q1 q2 => by rw [h115]; exact hc4 x q1 q2) rfl, ?_⟩
            rintro r1 rfl
            have hi := ix_in (n := n) (r := d * N + 1) hk (y := v1) ⟨h1, by omega⟩ (x := v5) ⟨e1, by omega⟩
            rw [es5, hg.2.2.2.1]
            refine ⟨⟨hi.1, by omega, by omega⟩, ?_⟩
            rintro s7 rfl v8 rfl
            refine ih5 _ _ ⟨by omega, by omega, fun c c9 c11 => ?_, ?_, ?_⟩ (by omega)
            · rw [up_ne _ _ c9]; exact hf5 c c9 c11
            · rw [up_ne _ _ (by decide)]; exact h115
            · rw [up_same]; exact hw5.put hk hpy hpx
      · rintro m3 v3 s3 ⟨e1, e2, hf3, h93, hc3⟩ ih3
        have es3 : s3 1 = σ 1 := hf3 1 (by decide) (by decide)
        have es8 : s3 8 = σ 8 := hf3 8 (by decide) (by decide)
        refine ⟨⟨by omega, by omega⟩, by rw [es3, hg.2.1]; exact ⟨by omega, by omega⟩, fun h => ?_, fun h => ?_⟩
        · rw [es3, hg.2.1] at h
          exact ⟨hf3, h93, fun x q1 q2 => hc3 x q1 (by omega)⟩
        · rw [es3, hg.2.1] at h
          refine ⟨fun r => r = col d N (inn d (σ 8) k) v3 v1, s_col (σ := s3) hP (by rw [es3]; exact hg) (by rw [es8]; exact hb) (by rw [es8]; exact hr) hk ⟨e1, by omega⟩ hpy (by rw [es8]), ?_⟩
          rintro r2 rfl
          refine ⟨⟨by omega, by omega, by omega⟩, ?_⟩
          rintro s8 rfl v9 rfl
          refine ih3 _ _ ⟨by omega, by omega, fun c c9 c11 => ?_, ?_, fun x q1 q2 => ?_⟩ (by omega)
          · rw [up_ne _ _ c11]; exact hf3 c c9 c11
          · rw [up_ne _ _ (by decide)]; exact h93
          · rw [up_same]
            by_cases hx : x = v3
            · subst hx; rw [up_same]
            · rw [up_ne _ _ (by omega)]; exact hc3 x q1 (by omega)
/-- the nearest at a place, once measured -/
def FrA (σ s : kM) : Prop := ∀ c, c ≠ 9 → c ≠ 10 → c ≠ 11 → s c = σ c
theorem FrA.tr {a b c : kM} (h : FrA a b) (k : FrA b c) : FrA a c := fun x h1 h2 h3 => (k x h1 h2 h3).trans (h x h1 h2 h3)
def FreshC (n d N : Int) (f8 f9 : Nat → Int) : Prop := ∀ k : Int, 0 ≤ k → k < n → ∀ px py : Int, 0 ≤ px → px ≤ d * N → 0 ≤ py → py ≤ d * N → f9 ((k * (d * N + 1) + py) * (d * N + 1) + px).toNat = near d N (inn d f8 k) px py
theorem s_at {nn : Nat → Nat} {σ : kM} {n d N k px py : Int} {Pr : Int → Prop} (hP : Par n d N nn) (hg : GeoC n d N (σ 1)) (hF : FreshC n d N (σ 8) (σ 9)) (hk : 0 ≤ k ∧ k < n) (hpx : 0 ≤ px ∧ px ≤ d * N) (hpy : 0 ≤ py ∧ py ≤ d * N) (kk : Pr (near d N (inn d (σ 8) k) px py)) : wp_S_nearestAt nn σ k px py Pr := by
  obtain ⟨⟨a1, a2, a3, a4, a5, a6, -⟩, -, n9, n10, -⟩ := id hP
  have hdN := dN_in ⟨a3, a4⟩ ⟨a5, a6⟩
  have hnr := nr_in (n := n) (r := d * N + 1) ⟨a1, a2⟩ ⟨by omega, by omega⟩
  have hi := ix_in (n := n) (r := d * N + 1) hk (y := py) ⟨hpy.1, by omega⟩ (x := px) ⟨hpx.1, by omega⟩
  have e := hF k hk.1 hk.2 px py hpx.1 hpx.2 hpy.1 hpy.2
  unfold wp_S_nearestAt
  rw [hg.2.2.2.1, e]
  exact ⟨⟨hi.1, by omega, by omega⟩, kk⟩
/-- all slices that have changed are measured anew -/
theorem s_mwc {nn : Nat → Nat} {σ : kM} {n d N : Int} {Pr : kM → Prop} (hP : Par n d N nn) (hg : GeoC n d N (σ 1)) (hb : BitC n d (σ 8)) (hr : RimC n d (σ 8)) (hC : CacheG n d N (σ 8) (σ 9) (σ 10)) (kk : ∀ s, FrA σ s → CacheG n d N (σ 8) (s 9) (s 10) → FreshC n d N (σ 8) (s 9) → Pr s) : wp_S_measureWhatChanged nn σ Pr := by
  obtain ⟨⟨a1, a2, a3, a4, a5, a6, -⟩, -, n9, n10, -⟩ := id hP
  have hL := lp2 (lp_S_measureWhatChanged_2 nn (fun _ s => FrA σ s ∧ CacheG n d N (σ 8) (s 9) (s 10) ∧ FreshC n d N (σ 8) (s 9))) (fun v1 s => 0 ≤ v1 ∧ v1 ≤ n ∧ FrA σ s ∧ CacheG n d N (σ 8) (s 9) (s 10) ∧ ∀ k, 0 ≤ k → k < v1 → s 10 k.toNat = 0) (fun v1 _ => (n - v1).toNat) ?_ 0 σ ⟨by omega, by omega, fun _ _ _ _ => rfl, hC, fun k q1 q2 => by omega⟩
  · obtain ⟨k1, h⟩ := hL
    exact ⟨_, k1, h, fun v s q => kk s q.1 q.2.1 q.2.2⟩
  · rintro m v1 s1 ⟨h1, h2, hf, hc, h0⟩ ih
    have es : s1 1 = σ 1 := hf 1 (by decide) (by decide) (by decide)
    have es8 : s1 8 = σ 8 := hf 8 (by decide) (by decide) (by decide)
    refine ⟨⟨by omega, by omega⟩, by rw [es, hg.1]; exact ⟨by omega, by omega⟩, fun h => ?_, fun h => ?_⟩
    · rw [es, hg.1] at h
      exact ⟨hf, hc, fun k q1 q2 px py => (hc k q1 q2).2 (h0 k q1 (by omega)) px py⟩
    · rw [es, hg.1] at h
      have hk : 0 ≤ v1 ∧ v1 < n := by omega
      have hin : 0 ≤ v1 ∧ v1 < (nn 10 : Int) ∧ v1 < 2147483648 := by omega
      obtain ⟨hbit, hval⟩ := hc v1 hk.1 hk.2
      refine ⟨hin, ⟨by omega, by omega⟩, fun h3 => ?_, fun h3 => ?_⟩
      · rintro v3 rfl
        refine ih _ _ ⟨by omega, by omega, hf, hc, fun k q1 q2 => ?_⟩ (by omega)
        by_cases e : k = v1
        · subst e; exact h3
        · exact h0 k q1 (by omega)
      · refine ⟨fun s => Fr9 s1 s ∧ W9 n d N v1 (inn d (σ 8) v1) (s1 9) (s 9) (d * N + 1) 0, s_measure (σ := s1) hP (by rw [es]; exact hg) (by rw [es8]; exact hb) (by rw [es8]; exact hr) hk (fun s q1 q2 => by rw [es8] at q2; exact ⟨q1, q2⟩), ?_⟩
        rintro s3 ⟨hf3, hw3⟩
        refine ⟨hin, ?_⟩
        rintro s4 rfl v4 rfl
        have e10 : s3 10 = s1 10 := hf3 10 (by decide) (by decide)
        refine ih _ _ ⟨by omega, by omega, fun c c9 c10 c11 => ?_, ?_, fun k q1 q2 => ?_⟩ (by omega)
        · rw [up_ne _ _ c10, hf3 c c9 c11]
          exact hf c c9 c10 c11
        · rw [up_ne _ _ (show (9 : Nat) ≠ 10 by decide), up_same, e10]
          intro k' b1 b2
          by_cases ek : k' = v1
          · subst ek
            rw [up_same]
            exact ⟨Or.inl rfl, fun _ px py c1 c2 c3 c4 => by rw [hw3 k' py px b1 b2 c3 c4 c1 c2, if_pos ⟨rfl, Or.inl (by omega)⟩]⟩
          · rw [up_ne _ _ (by omega)]
            obtain ⟨q1, q2⟩ := hc k' b1 b2
            exact ⟨q1, fun h px py c1 c2 c3 c4 => by rw [hw3 k' py px b1 b2 c3 c4 c1 c2, if_neg (fun q => ek q.1)]; exact q2 h px py c1 c2 c3 c4⟩
        · rw [up_same]
          by_cases e : k = v1
          · subst e; rw [up_same]
          · rw [up_ne _ _ (by omega), e10]; exact h0 k q1 (by omega)
