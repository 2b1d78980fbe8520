/-! the room of an axis, and the class's search -/
theorem plc_rng {d N n k x0 x1 : Int} (hN : 1 ≤ N ∧ N ≤ 3) (hn : n ≤ N + 1) (hk : 0 ≤ k ∧ k < n) (h0 : 0 ≤ x0 ∧ x0 ≤ d) (h1 : 0 ≤ x1 ∧ x1 ≤ d) : 0 ≤ x0 * N + (x1 - x0) * k ∧ x0 * N + (x1 - x0) * k ≤ d * N := by
  rcases (show N = 1 ∨ N = 2 ∨ N = 3 by omega) with rfl | rfl | rfl <;> rcases (show k = 0 ∨ k = 1 ∨ k = 2 ∨ k = 3 by omega) with rfl | rfl | rfl | rfl <;> omega
section RM
variable {n d N : Int} {nn : Nat → Nat} {J : Int → Int → Int → Int}
def JO (d : Int) (J : Int → Int → Int → Int) : Prop := ∀ k x y, ¬ (0 ≤ x ∧ x < d ∧ 0 ≤ y ∧ y < d) → J k x y = 0
theorem rm_near (hP : Par n d N nn) (hJ : JO d J) {x0 y0 x1 y1 k : Int} (hk : 0 ≤ k ∧ k < n) (h : inD d x0 y0 x1 y1) : 0 ≤ near d N (J k) (x0 * N + (x1 - x0) * k) (y0 * N + (y1 - y0) * k) ∧ near d N (J k) (x0 * N + (x1 - x0) * k) (y0 * N + (y1 - y0) * k) ≤ 225 := by
  obtain ⟨⟨a1, a2, a3, a4, a5, a6, a7⟩, -⟩ := hP
  obtain ⟨b1, b2, b3, b4, b5, b6, b7, b8⟩ := h
  exact near_in ⟨a5, a6⟩ ⟨a3, a4⟩ (plc_rng ⟨a5, a6⟩ a7 hk ⟨b1, b2⟩ ⟨b5, b6⟩) (plc_rng ⟨a5, a6⟩ a7 hk ⟨b3, b4⟩ ⟨b7, b8⟩) (hJ k)
theorem rm_le {x0 y0 x1 y1 k : Int} (hk : 0 ≤ k ∧ k < n) : rmf n d N J x0 y0 x1 y1 ≤ near d N (J k) (x0 * N + (x1 - x0) * k) (y0 * N + (y1 - y0) * k) := by
  have h := mnT_le (b := 1000000) (f := fun k : Nat => near d N (J (k : Int)) (x0 * N + (x1 - x0) * (k : Int)) (y0 * N + (y1 - y0) * (k : Int))) (j := k.toNat) (k := n.toNat) (by omega)
  have e : ((k.toNat : Nat) : Int) = k := by omega
  simp only [e] at h
  exact h
theorem rm_mem (hP : Par n d N nn) (hJ : JO d J) {x0 y0 x1 y1 : Int} (h : inD d x0 y0 x1 y1) : ∃ k, (0 ≤ k ∧ k < n) ∧ rmf n d N J x0 y0 x1 y1 = near d N (J k) (x0 * N + (x1 - x0) * k) (y0 * N + (y1 - y0) * k) := by
  have hn := hP.1.1
  have h1 := rm_near hP hJ (k := 0) ⟨by omega, by omega⟩ h
  have h2 := rm_le (n := n) (d := d) (N := N) (J := J) (x0 := x0) (y0 := y0) (x1 := x1) (y1 := y1) (k := 0) ⟨by omega, by omega⟩
  rcases mnT_mem 1000000 (fun k : Nat => near d N (J (k : Int)) (x0 * N + (x1 - x0) * (k : Int)) (y0 * N + (y1 - y0) * (k : Int))) n.toNat with h3 | ⟨j, h3, h4⟩
  · have h3 : rmf n d N J x0 y0 x1 y1 = 1000000 := h3
    omega
  · exact ⟨(j : Int), ⟨by omega, by omega⟩, h4⟩
theorem rm_in (hP : Par n d N nn) (hJ : JO d J) {x0 y0 x1 y1 : Int} (h : inD d x0 y0 x1 y1) : 0 ≤ rmf n d N J x0 y0 x1 y1 ∧ rmf n d N J x0 y0 x1 y1 ≤ 225 := by
  obtain ⟨k, hk, e⟩ := rm_mem hP hJ h
  rw [e]
  exact rm_near hP hJ hk h
theorem rm_eq (hP : Par n d N nn) (hJ : JO d J) {x0 y0 x1 y1 v k0 : Int} (h : inD d x0 y0 x1 y1) (hl : ∀ k, 0 ≤ k → k < n → v ≤ near d N (J k) (x0 * N + (x1 - x0) * k) (y0 * N + (y1 - y0) * k)) (hk : 0 ≤ k0 ∧ k0 < n) (hv : v = near d N (J k0) (x0 * N + (x1 - x0) * k0) (y0 * N + (y1 - y0) * k0)) : v = rmf n d N J x0 y0 x1 y1 := by
  obtain ⟨k, hk1, e⟩ := rm_mem hP hJ h
  have h1 := hl k hk1.1 hk1.2
  have h2 := rm_le (n := n) (d := d) (N := N) (J := J) (x0 := x0) (y0 := y0) (x1 := x1) (y1 := y1) hk
  omega
end RM
theorem inn_JO (d : Int) (f : Nat → Int) : JO d (inn d f) := fun k => inn_out d f k
theorem innM_JO (d : Int) (f : Nat → Int) : JO d (innM d f) := fun k => innM_out d f k
theorem BitC.of {n d : Int} {f8 f28 : Nat → Int} (h : CellG n d f8 f28) : BitC n d f8 := fun k x y a b c e f g => (h k x y a b c e f g).1
theorem s_above {nn : Nat → Nat} {σ : kM} {n d N fl x0 y0 x1 y1 : Int} {Pr : Int → Prop} (hP : Par n d N nn) (hg : GeoC n d N (σ 1)) (ha : σ 2 2 = N) (hF : FreshC n d N (σ 8) (σ 9)) (hD : inD d x0 y0 x1 y1) (hfl : 0 ≤ fl ∧ fl ≤ 1000000) (kk : ∀ v, (0 ≤ v ∧ v ≤ 1000000) → (v = rmf n d N (inn d (σ 8)) x0 y0 x1 y1 ∨ (v ≤ fl ∧ rmf n d N (inn d (σ 8)) x0 y0 x1 y1 ≤ v)) → Pr v) : wp_A_roomAbove nn σ fl x0 y0 x1 y1 Pr := by
  obtain ⟨⟨a1, a2, a3, a4, a5, a6, a7⟩, -⟩ := id hP
  have hJ := inn_JO d (σ 8)
  intro v1 hv1
  rw [hg.1] at hv1
  have hL := lp2 (lp_A_roomAbove_15 nn fl x0 y0 x1 y1 σ (fun _ v => (0 ≤ v ∧ v ≤ 1000000) ∧ (v = rmf n d N (inn d (σ 8)) x0 y0 x1 y1 ∨ (v ≤ fl ∧ rmf n d N (inn d (σ 8)) x0 y0 x1 y1 ≤ v)))) (fun v2 v3 => -1 ≤ v2 ∧ v2 ≤ n - 1 ∧ (∀ k, v2 < k → k < n → v3 ≤ near d N (inn d (σ 8) k) (x0 * N + (x1 - x0) * k) (y0 * N + (y1 - y0) * k)) ∧ ((v2 = n - 1 ∧ v3 = 2147483647) ∨ ∃ k, v2 < k ∧ k < n ∧ v3 = near d N (inn d (σ 8) k) (x0 * N + (x1 - x0) * k) (y0 * N + (y1 - y0) * k))) (fun v2 _ => (v2 + 1).toNat) ?_ v1 2147483647 ⟨by omega, by omega, fun k q1 q2 => by omega, Or.inl ⟨by omega, rfl⟩⟩
  · obtain ⟨k1, h⟩ := hL
    exact ⟨_, k1, h, fun v4 v5 q => kk v5 q.1 q.2⟩
  · rintro m v2 v3 ⟨h1, h2, hl, hm⟩ ih
    have hv3 : 0 ≤ v3 ∧ v3 ≤ 2147483647 := by
      rcases hm with ⟨-, rfl⟩ | ⟨k, q1, q2, rfl⟩
      · decide
      · have := rm_near hP hJ (k := k) ⟨by omega, q2⟩ hD; omega
    refine ⟨⟨by omega, by omega⟩, fun h => ?_, fun h => ⟨⟨by omega, by omega⟩, ⟨by omega, by omega⟩, fun h3 => ?_, fun h3 => ?_⟩⟩
    · rcases hm with ⟨q1, -⟩ | ⟨k, q1, q2, q3⟩
      · omega
      · have e := rm_eq hP hJ hD (fun k b1 b2 => hl k (by omega) b2) ⟨by omega, q2⟩ q3
        have := rm_in hP hJ hD
        exact ⟨by omega, Or.inl e⟩
    · rcases hm with ⟨-, q1⟩ | ⟨k, q1, q2, q3⟩
      · omega
      · have e := rm_le (n := n) (d := d) (N := N) (J := inn d (σ 8)) (x0 := x0) (y0 := y0) (x1 := x1) (y1 := y1) (k := k) ⟨by omega, q2⟩
        exact ⟨by omega, Or.inr ⟨h3, by omega⟩⟩
    · rw [ha]
      rintro v6 rfl v7 rfl
      obtain ⟨b1, b2, b3, b4, b5, b6, b7, b8⟩ := id hD
      have hk : 0 ≤ v2 ∧ v2 < n := by omega
      refine ⟨fun r => r = near d N (inn d (σ 8) v2) (x0 * N + (x1 - x0) * v2) (y0 * N + (y1 - y0) * v2), s_at hP hg hF hk (plc_rng ⟨a5, a6⟩ a7 hk ⟨b1, b2⟩ ⟨b5, b6⟩) (plc_rng ⟨a5, a6⟩ a7 hk ⟨b3, b4⟩ ⟨b7, b8⟩) rfl, ?_⟩
      rintro r4 rfl
      have hn := rm_near hP hJ hk hD
      refine ⟨⟨by omega, by omega⟩, ⟨by omega, by omega⟩, ?_⟩
      rintro v8 rfl v9 rfl
      refine ih _ _ ⟨by omega, by omega, fun k q1 q2 => ?_, ?_⟩ (by omega)
      · by_cases e : k = v2
        · subst e; split <;> omega
        · have := hl k (by omega) q2
          split <;> omega
      · refine Or.inr ?_
        split
        · exact ⟨v2, by omega, hk.2, rfl⟩
        · rcases hm with ⟨-, q1⟩ | ⟨k, q1, q2, q3⟩
          · omega
          · exact ⟨k, by omega, q2, q3⟩
/-! the best so far -/
section PBs
variable {d : Int} {F : Int → Int → Int → Int → Int} {R a0 a1 a2 a3 c0 c1 c2 c3 : Int}
theorem lx_succ {x0 y0 x1 y1 : Int} (h : lx x0 y0 x1 y1 c0 c1 c2 (c3 + 1)) : lx x0 y0 x1 y1 c0 c1 c2 c3 ∨ (x0 = c0 ∧ y0 = c1 ∧ x1 = c2 ∧ y1 = c3) := by
  unfold lx at *
  omega
theorem PB.skip (h : PB d F R a0 a1 a2 a3 c0 c1 c2 c3) (hF : F c0 c1 c2 c3 ≤ R) : PB d F R a0 a1 a2 a3 c0 c1 c2 (c3 + 1) := by
  obtain ⟨h1, h2, h3⟩ := h
  refine ⟨h1, h2, fun x0 y0 x1 y1 hd => ⟨fun hl => ?_, (h3 x0 y0 x1 y1 hd).2⟩⟩
  rcases lx_succ hl with h | ⟨rfl, rfl, rfl, rfl⟩
  · exact (h3 x0 y0 x1 y1 hd).1 h
  · exact hF
theorem PB.take (h : PB d F R a0 a1 a2 a3 c0 c1 c2 c3) (hc : inD d c0 c1 c2 c3) (hF : R < F c0 c1 c2 c3) : PB d F (F c0 c1 c2 c3) c0 c1 c2 c3 c0 c1 c2 (c3 + 1) := by
  obtain ⟨h1, h2, h3⟩ := h
  refine ⟨hc, rfl, fun x0 y0 x1 y1 hd => ⟨fun hl => ?_, fun hl => ?_⟩⟩
  · rcases lx_succ hl with h | ⟨rfl, rfl, rfl, rfl⟩
    · have := (h3 x0 y0 x1 y1 hd).1 h; omega
    · exact Int.le_refl _
  · have := (h3 x0 y0 x1 y1 hd).1 hl; omega
theorem PB.mono {e0 e1 e2 e3 : Int} (h : PB d F R a0 a1 a2 a3 c0 c1 c2 c3) (hl : ∀ x0 y0 x1 y1, inD d x0 y0 x1 y1 → lx x0 y0 x1 y1 e0 e1 e2 e3 → lx x0 y0 x1 y1 c0 c1 c2 c3) : PB d F R a0 a1 a2 a3 e0 e1 e2 e3 := by
  obtain ⟨h1, h2, h3⟩ := h
  exact ⟨h1, h2, fun x0 y0 x1 y1 hd => ⟨fun q => (h3 x0 y0 x1 y1 hd).1 (hl x0 y0 x1 y1 hd q), (h3 x0 y0 x1 y1 hd).2⟩⟩
theorem PB.n2 (h : PB d F R a0 a1 a2 a3 c0 c1 c2 (d + 1)) : PB d F R a0 a1 a2 a3 c0 c1 (c2 + 1) 0 := h.mono (fun x0 y0 x1 y1 hd q => by unfold lx inD at *; omega)
theorem PB.n1 (h : PB d F R a0 a1 a2 a3 c0 c1 (d + 1) 0) : PB d F R a0 a1 a2 a3 c0 (c1 + 1) 0 0 := h.mono (fun x0 y0 x1 y1 hd q => by unfold lx inD at *; omega)
theorem PB.n0 (h : PB d F R a0 a1 a2 a3 c0 (d + 1) 0 0) : PB d F R a0 a1 a2 a3 (c0 + 1) 0 0 0 := h.mono (fun x0 y0 x1 y1 hd q => by unfold lx inD at *; omega)
theorem PB.prune (h : PB d F R a0 a1 a2 a3 c0 c1 0 0) (hF : ∀ x1 y1, inD d c0 c1 x1 y1 → F c0 c1 x1 y1 ≤ R) : PB d F R a0 a1 a2 a3 c0 (c1 + 1) 0 0 := by
  obtain ⟨h1, h2, h3⟩ := h
  refine ⟨h1, h2, fun x0 y0 x1 y1 hd => ⟨fun hl => ?_, (h3 x0 y0 x1 y1 hd).2⟩⟩
  by_cases e : x0 = c0 ∧ y0 = c1
  · obtain ⟨rfl, rfl⟩ := e
    exact hF x1 y1 hd
  · exact (h3 x0 y0 x1 y1 hd).1 (by unfold lx inD at *; omega)
theorem PB.done (h : PB d F R a0 a1 a2 a3 (d + 1) 0 0 0) : BestP d F R a0 a1 a2 a3 := by
  obtain ⟨h1, h2, h3⟩ := h
  exact ⟨h1, h2, fun x0 y0 x1 y1 hd => ⟨(h3 x0 y0 x1 y1 hd).1 (by unfold lx inD at *; omega), (h3 x0 y0 x1 y1 hd).2⟩⟩
theorem BestP.one {R' b0 b1 b2 b3 : Int} (h : BestP d F R a0 a1 a2 a3) (k : BestP d F R' b0 b1 b2 b3) : R' = R ∧ b0 = a0 ∧ b1 = a1 ∧ b2 = a2 ∧ b3 = a3 := by
  obtain ⟨h1, h2, h3⟩ := h
  obtain ⟨k1, k2, k3⟩ := k
  have e1 := (h3 _ _ _ _ k1).1
  have e2 := (k3 _ _ _ _ h1).1
  have e : R' = R := by omega
  have f1 : ¬ lx b0 b1 b2 b3 a0 a1 a2 a3 := fun q => by have := (h3 _ _ _ _ k1).2 q; omega
  have f2 : ¬ lx a0 a1 a2 a3 b0 b1 b2 b3 := fun q => by have := (k3 _ _ _ _ h1).2 q; omega
  refine ⟨e, ?_⟩
  unfold lx at f1 f2
  omega
end PBs
def FrS (σ s : kM) : Prop := (∀ c, c ≠ 2 → c ≠ 12 → s c = σ c) ∧ s 2 1 = σ 2 1 ∧ s 2 2 = σ 2 2
def InvS (n d N : Int) (σ s : kM) (c0 c1 c2 c3 : Int) : Prop := FrS σ s ∧ PB d (rmf n d N (inn d (σ 8))) (s 2 4) (s 12 0) (s 12 1) (s 12 2) (s 12 3) c0 c1 c2 c3
theorem s_seekFrom {nn : Nat → Nat} {σ s0 : kM} {n d N x0 y0 : Int} {Pr : kM → Prop} (hP : Par n d N nn) (hg : GeoC n d N (σ 1)) (ha1 : σ 2 1 = d) (ha2 : σ 2 2 = N) (hF : FreshC n d N (σ 8) (σ 9)) (hI : InvS n d N σ s0 x0 y0 0 0) (hx : 0 ≤ x0 ∧ x0 ≤ d) (hy : 0 ≤ y0 ∧ y0 ≤ d) (kk : ∀ s, InvS n d N σ s x0 (y0 + 1) 0 0 → Pr s) : wp_A_seekFrom nn s0 x0 y0 Pr := by
  obtain ⟨⟨a1, a2, a3, a4, a5, a6, a7⟩, -⟩ := id hP
  have hJ := inn_JO d (σ 8)
  have hL := lp2 (lp_A_seekFrom_2 nn x0 y0 (fun _ s => InvS n d N σ s x0 (y0 + 1) 0 0)) (fun v1 s => 0 ≤ v1 ∧ v1 ≤ d + 1 ∧ InvS n d N σ s x0 y0 v1 0) (fun v1 _ => (d + 1 - v1).toNat) ?_ 0 s0 ⟨by omega, by omega, hI⟩
  · obtain ⟨k1, h⟩ := hL
    exact ⟨_, k1, h, fun v2 s q => kk s q⟩
  · rintro m v1 s1 ⟨h1, h2, hi⟩ ih
    have es : s1 2 1 = d := hi.1.2.1.trans ha1
    refine ⟨⟨by omega, by omega⟩, by rw [es]; exact ⟨by omega, by omega⟩, fun h => ?_, fun h => ?_⟩
    · rw [es] at h
      obtain ⟨q1, q3⟩ := hi
      rw [show v1 = d + 1 by omega] at q3
      exact ⟨q1, q3.n1⟩
    · rw [es] at h
      have hL2 := lp2 (lp_A_seekFrom_13 nn x0 y0 v1 (fun _ s => InvS n d N σ s x0 y0 (v1 + 1) 0)) (fun v3 s => 0 ≤ v3 ∧ v3 ≤ d + 1 ∧ InvS n d N σ s x0 y0 v1 v3) (fun v3 _ => (d + 1 - v3).toNat) ?_ 0 s1 ⟨by omega, by omega, hi⟩
      · obtain ⟨k2, hk2⟩ := hL2
        refine ⟨_, k2, hk2, ?_⟩
        rintro v4 s4 q v5 rfl
        exact ih _ _ ⟨by omega, by omega, q⟩ (by omega)
      · rintro m3 v3 s3 ⟨g1, g2, hf3, hp3⟩ ih3
        have es3 : s3 2 1 = d := hf3.2.1.trans ha1
        have e1 : s3 1 = σ 1 := hf3.1 1 (by decide) (by decide)
        have e8 : s3 8 = σ 8 := hf3.1 8 (by decide) (by decide)
        have e9 : s3 9 = σ 9 := hf3.1 9 (by decide) (by decide)
        refine ⟨⟨by omega, by omega⟩, by rw [es3]; exact ⟨by omega, by omega⟩, fun h3 => ?_, fun h3 => ?_⟩
        · rw [es3] at h3
          rw [show v3 = d + 1 by omega] at hp3
          exact ⟨hf3, hp3.n2⟩
        · rw [es3] at h3
          have hD : inD d x0 y0 v1 v3 := ⟨hx.1, hx.2, hy.1, hy.2, h1, by omega, g1, by omega⟩
          have hR := rm_in hP hJ hp3.1
          rw [hp3.2.1] at hR
          refine ⟨fun v => (0 ≤ v ∧ v ≤ 1000000) ∧ (v = rmf n d N (inn d (σ 8)) x0 y0 v1 v3 ∨ (v ≤ s3 2 4 ∧ rmf n d N (inn d (σ 8)) x0 y0 v1 v3 ≤ v)), s_above (σ := s3) hP (by rw [e1]; exact hg) (hf3.2.2.trans ha2) (by rw [e8, e9]; exact hF) hD ⟨hR.1, by omega⟩ (fun v q3 q4 => by rw [e8] at q4; exact ⟨q3, q4⟩), ?_⟩
          rintro r3 ⟨hr5, hv5⟩
          refine ⟨⟨by omega, by omega⟩, ⟨by omega, by omega⟩, fun h4 => ?_, fun h4 => ?_⟩
          · rintro v6 rfl
            exact ih3 _ _ ⟨by omega, by omega, hf3, hp3.skip (by omega)⟩ (by omega)
          · have hv : r3 = rmf n d N (inn d (σ 8)) x0 y0 v1 v3 := by omega
            refine ⟨fun s => InvS n d N σ s x0 y0 v1 (v3 + 1), ?_, fun s6 q v7 e => ?_⟩
            · rintro t1 rfl t2 rfl t3 rfl t4 rfl t5 rfl
              refine ⟨⟨fun c b1 b5 => ?_, hf3.2⟩, ?_⟩
              · rw [up_ne _ _ b5, up_ne _ _ b5, up_ne _ _ b5, up_ne _ _ b5, up_ne _ _ b1]
                exact hf3.1 c b1 b5
              · have hT := hp3.take hD (by omega)
                rw [← hv] at hT
                exact hT
            · subst e
              exact ih3 _ _ ⟨by omega, by omega, q⟩ (by omega)
theorem s_seek {nn : Nat → Nat} {σ : kM} {n d N : Int} {Pr : kM → Prop} (hP : Par n d N nn) (hg : GeoC n d N (σ 1)) (ha1 : σ 2 1 = d) (ha2 : σ 2 2 = N) (hF : FreshC n d N (σ 8) (σ 9)) (kk : ∀ s, FrS σ s → BestP d (rmf n d N (inn d (σ 8))) (s 2 4) (s 12 0) (s 12 1) (s 12 2) (s 12 3) → Pr s) : wp_A_seek nn σ Pr := by
  obtain ⟨⟨a1, a2, a3, a4, a5, a6, a7⟩, -⟩ := id hP
  have hJ := inn_JO d (σ 8)
  have hdN := dN_in ⟨a3, a4⟩ ⟨a5, a6⟩
  have h0000 : rmf n d N (inn d (σ 8)) 0 0 0 0 = 0 := by
    have hD : inD d 0 0 0 0 := ⟨by omega, by omega, by omega, by omega, by omega, by omega, by omega, by omega⟩
    have h1 := rm_in hP hJ hD
    have h2 := rm_le (n := n) (d := d) (N := N) (J := inn d (σ 8)) (x0 := 0) (y0 := 0) (x1 := 0) (y1 := 0) (k := 0) ⟨by omega, by omega⟩
    have h3 := (near_edge (I := inn d (σ 8) 0) (px := 0) (py := 0) ⟨a5, a6⟩ ⟨a3, a4⟩ ⟨by omega, by omega⟩ ⟨by omega, by omega⟩ (inn_out d (σ 8) 0)).1
    simp only [Int.zero_mul, Int.sub_self, Int.add_zero] at h2 h3
    omega
  refine ⟨fun s => InvS n d N σ s 0 0 0 0, ?_, fun s1 hs1 => ?_⟩
  · rintro t1 rfl t2 rfl t3 rfl t4 rfl t5 rfl
    refine ⟨⟨fun c b1 b5 => ?_, rfl, rfl⟩, ?_⟩
    · rw [up_ne _ _ b5, up_ne _ _ b5, up_ne _ _ b5, up_ne _ _ b5, up_ne _ _ b1]
    · show PB d (rmf n d N (inn d (σ 8))) 0 0 0 0 0 0 0 0 0
      refine ⟨⟨by omega, by omega, by omega, by omega, by omega, by omega, by omega, by omega⟩, h0000, fun x0 y0 x1 y1 hd => ⟨fun q => ?_, fun q => ?_⟩⟩
      · unfold lx inD at *; omega
      · unfold lx inD at *; omega
  · have hL := lp2 (lp_A_seek_11 nn (fun _ s => InvS n d N σ s (d + 1) 0 0 0)) (fun v1 s => 0 ≤ v1 ∧ v1 ≤ d + 1 ∧ InvS n d N σ s v1 0 0 0) (fun v1 _ => (d + 1 - v1).toNat) ?_ 0 s1 ⟨by omega, by omega, hs1⟩
    · obtain ⟨k1, h⟩ := hL
      exact ⟨_, k1, h, fun v2 s q => kk s q.1 q.2.done⟩
    · rintro m v1 s2 ⟨h1, h2, hi⟩ ih
      have es : s2 2 1 = d := hi.1.2.1.trans ha1
      refine ⟨⟨by omega, by omega⟩, by rw [es]; exact ⟨by omega, by omega⟩, fun h => ?_, fun h => ?_⟩
      · rw [es] at h
        rw [show v1 = d + 1 by omega] at hi
        exact hi
      · rw [es] at h
        have hL2 := lp2 (lp_A_seek_21 nn v1 (fun _ s => InvS n d N σ s (v1 + 1) 0 0 0)) (fun v3 s => 0 ≤ v3 ∧ v3 ≤ d + 1 ∧ InvS n d N σ s v1 v3 0 0) (fun v3 _ => (d + 1 - v3).toNat) ?_ 0 s2 ⟨by omega, by omega, hi⟩
        · obtain ⟨k2, hk2⟩ := hL2
          refine ⟨_, k2, hk2, ?_⟩
          rintro v4 s5 q v5 rfl
          exact ih _ _ ⟨by omega, by omega, q⟩ (by omega)
        · rintro m3 v3 s4 ⟨g1, g2, hf4, hp4⟩ ih4
          have es4 : s4 2 1 = d := hf4.2.1.trans ha1
          have et4 : s4 2 2 = N := hf4.2.2.trans ha2
          have e1 : s4 1 = σ 1 := hf4.1 1 (by decide) (by decide)
          have e8 : s4 8 = σ 8 := hf4.1 8 (by decide) (by decide)
          have e9 : s4 9 = σ 9 := hf4.1 9 (by decide) (by decide)
          refine ⟨⟨by omega, by omega⟩, by rw [es4]; exact ⟨by omega, by omega⟩, fun h3 => ?_, fun h3 => ?_⟩
          · rw [es4] at h3
            rw [show v3 = d + 1 by omega] at hp4
            exact ⟨hf4, hp4.n0⟩
          · rw [es4] at h3
            have hR := rm_in hP hJ hp4.1
            rw [hp4.2.1] at hR
            have p1 : v1 * N ≤ d * N := Int.mul_le_mul_of_nonneg_right (by omega) (by omega)
            have p2 : v3 * N ≤ d * N := Int.mul_le_mul_of_nonneg_right (by omega) (by omega)
            have p3 : 0 ≤ v1 * N := Int.mul_nonneg h1 (by omega)
            have p4 : 0 ≤ v3 * N := Int.mul_nonneg g1 (by omega)
            have hnr := near_in (I := inn d (σ 8) 0) (px := v1 * N) (py := v3 * N) ⟨a5, a6⟩ ⟨a3, a4⟩ ⟨p3, p1⟩ ⟨p4, p2⟩ (inn_out d (σ 8) 0)
            rw [et4]
            refine ⟨fun r => r = near d N (inn d (σ 8) 0) (v1 * N) (v3 * N), s_at (σ := s4) hP (by rw [e1]; exact hg) (by rw [e8, e9]; exact hF) ⟨by omega, by omega⟩ ⟨p3, p1⟩ ⟨p4, p2⟩ (by rw [e8]), ?_⟩
            rintro r5 rfl
            refine ⟨⟨by omega, by omega⟩, ⟨by omega, by omega⟩, fun h4 => ?_, fun h4 => ?_⟩
            · rintro v6 rfl
              refine ih4 _ _ ⟨by omega, by omega, hf4, hp4.prune (fun x1 y1 hd => ?_)⟩ (by omega)
              have q := rm_le (n := n) (d := d) (N := N) (J := inn d (σ 8)) (x0 := v1) (y0 := v3) (x1 := x1) (y1 := y1) (k := 0) ⟨by omega, by omega⟩
              simp only [Int.mul_zero, Int.add_zero] at q
              omega
            · refine ⟨fun s => InvS n d N σ s v1 (v3 + 1) 0 0, s_seekFrom hP hg ha1 ha2 hF ⟨hf4, hp4⟩ ⟨h1, by omega⟩ ⟨g1, by omega⟩ (fun s q => q), ?_⟩
              rintro s7 q v7 rfl
              exact ih4 _ _ ⟨by omega, by omega, q⟩ (by omega)
def FrT (σ s : kM) : Prop := ∀ c, c ≠ 2 → c ≠ 9 → c ≠ 10 → c ≠ 11 → c ≠ 12 → s c = σ c
theorem s_stale {nn : Nat → Nat} {σ : kM} {n d N : Int} {Pr : kM → Prop} (hP : Par n d N nn) (hg : GeoC n d N (σ 1)) (hb : BitC n d (σ 8)) (hC : CacheG n d N (σ 8) (σ 9) (σ 10)) (hA : AxC n d N (σ 8) (σ 2 1) (σ 2 2) (σ 2 4) (σ 2 5) (σ 12)) (kk : ∀ s, FrT σ s → (s 2 1 = d ∧ s 2 2 = N) → s 2 5 = 0 → CacheG n d N (σ 8) (s 9) (s 10) → BestP d (rmf n d N (inn d (σ 8))) (s 2 4) (s 12 0) (s 12 1) (s 12 2) (s 12 3) → Pr s) : wp_A_seekIfStale nn σ Pr := by
  obtain ⟨⟨⟨hs, hp, hr⟩, hA1⟩, hA2⟩ := hA
  refine ⟨⟨by omega, by omega⟩, fun h => kk σ (fun _ _ _ _ _ _ => rfl) ⟨hs, hp⟩ h hC (hA2 h), fun h => ?_⟩
  refine ⟨fun s => FrA σ s ∧ CacheG n d N (σ 8) (s 9) (s 10) ∧ FreshC n d N (σ 8) (s 9), s_mwc hP hg hb hr hC (fun s q1 q2 q3 => ⟨q1, q2, q3⟩), ?_⟩
  rintro s1 ⟨q1, q2, q3⟩
  have e1 : s1 1 = σ 1 := q1 1 (by decide) (by decide) (by decide)
  have e2 : s1 2 = σ 2 := q1 2 (by decide) (by decide) (by decide)
  have e8 : s1 8 = σ 8 := q1 8 (by decide) (by decide) (by decide)
  refine ⟨fun s => FrS s1 s ∧ BestP d (rmf n d N (inn d (σ 8))) (s 2 4) (s 12 0) (s 12 1) (s 12 2) (s 12 3), s_seek (σ := s1) hP (by rw [e1]; exact hg) (by rw [e2]; exact hs) (by rw [e2]; exact hp) (by rw [e8]; exact q3) (fun s p1 p2 => by rw [e8] at p2; exact ⟨p1, p2⟩), ?_⟩
  rintro s2 ⟨p1, p2⟩ s3 rfl
  have e9 : s2 9 = s1 9 := p1.1 9 (by decide) (by decide)
  have e10 : s2 10 = s1 10 := p1.1 10 (by decide) (by decide)
  refine kk _ (fun c b1 b2 b3 b4 b5 => ?_) ⟨?_, ?_⟩ rfl ?_ p2
  · rw [up_ne _ _ b1, p1.1 c b1 b5]
    exact q1 c b2 b3 b4
  · show s2 2 1 = d
    rw [p1.2.1, e2]; exact hs
  · show s2 2 2 = N
    rw [p1.2.2, e2]; exact hp
  · show CacheG n d N (σ 8) (s2 9) (s2 10)
    rw [e9, e10]; exact q2
