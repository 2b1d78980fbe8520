/-! roots -/
def RootP (N room r : Int) : Prop := ∃ v, 0 ≤ v ∧ v * v ≤ room * 10000 ∧ room * 10000 < (v + 1) * (v + 1) ∧ r = v / N
theorem root_one {p a b : Int} (ha : 0 ≤ a) (hb : 0 ≤ b) (a1 : a * a ≤ p) (a2 : p < (a + 1) * (a + 1)) (b1 : b * b ≤ p) (b2 : p < (b + 1) * (b + 1)) : a = b := by
  have h1 : ¬ a < b := fun h => by have := sq_le (a := a + 1) (b := b) (by omega) (by omega); omega
  have h2 : ¬ b < a := fun h => by have := sq_le (a := b + 1) (b := a) (by omega) (by omega); omega
  omega
theorem RootP.one {N room r r' : Int} (h : RootP N room r) (k : RootP N room r') : r' = r := by
  obtain ⟨v, a1, a2, a3, rfl⟩ := h
  obtain ⟨w, b1, b2, b3, rfl⟩ := k
  rw [root_one a1 b1 a2 a3 b2 b3]
theorem root_le {room v : Int} (h : room ≤ 225) (h0 : 0 ≤ v) (h1 : v * v ≤ room * 10000) : v ≤ 1500 := by
  have : ¬ 1501 ≤ v := fun q => by have := sq_le (a := 1501) (b := v) (by decide) q; omega
  omega
theorem RootP.bnd {N room r : Int} (h : RootP N room r) (hr : room ≤ 225) (hN : 1 ≤ N) : 0 ≤ r ∧ r ≤ 1500 := by
  obtain ⟨v, a1, a2, a3, rfl⟩ := h
  have := root_le hr a1 a2
  exact ⟨Int.ediv_nonneg a1 (by omega), Int.le_trans (Int.ediv_le_self _ a1) this⟩
def bitL (v : Int) : Prop := v = 1024 ∨ v = 512 ∨ v = 256 ∨ v = 128 ∨ v = 64 ∨ v = 32 ∨ v = 16 ∨ v = 8 ∨ v = 4 ∨ v = 2 ∨ v = 1 ∨ v = 0
def wid (v : Int) : Int := if v = 0 then 1 else 2 * v
theorem bit_half {v : Int} (h : bitL v) (h0 : 0 < v) : bitL (kShr v 1) ∧ wid (kShr v 1) = v ∧ kShr v 1 < v ∧ 0 ≤ kShr v 1 ∧ 2 * kShr v 1 ≤ v := by
  rcases h with rfl | rfl | rfl | rfl | rfl | rfl | rfl | rfl | rfl | rfl | rfl | rfl
  · rw [show kShr 1024 1 = 512 by decide +kernel]; unfold bitL wid; omega
  · rw [show kShr 512 1 = 256 by decide +kernel]; unfold bitL wid; omega
  · rw [show kShr 256 1 = 128 by decide +kernel]; unfold bitL wid; omega
  · rw [show kShr 128 1 = 64 by decide +kernel]; unfold bitL wid; omega
  · rw [show kShr 64 1 = 32 by decide +kernel]; unfold bitL wid; omega
  · rw [show kShr 32 1 = 16 by decide +kernel]; unfold bitL wid; omega
  · rw [show kShr 16 1 = 8 by decide +kernel]; unfold bitL wid; omega
  · rw [show kShr 8 1 = 4 by decide +kernel]; unfold bitL wid; omega
  · rw [show kShr 4 1 = 2 by decide +kernel]; unfold bitL wid; omega
  · rw [show kShr 2 1 = 1 by decide +kernel]; unfold bitL wid; omega
  · rw [show kShr 1 1 = 0 by decide +kernel]; unfold bitL wid; omega
  · omega
theorem p_root {nn : Nat → Nat} {σ : kM} {p : Int} {Pr : Int → Prop} (hp : 0 ≤ p ∧ p ≤ 2250000) (kk : ∀ v, 0 ≤ v → v * v ≤ p → p < (v + 1) * (v + 1) → Pr v) : wp_A_rootOf nn σ p Pr := by
  have hL := lp2 (lp_A_rootOf_6 nn p (fun _ v => 0 ≤ v ∧ v * v ≤ p ∧ p < (v + 1) * (v + 1))) (fun v1 v2 => bitL v1 ∧ 0 ≤ v2 ∧ v2 + 2 * v1 ≤ 2048 ∧ v2 * v2 ≤ p ∧ p < (v2 + wid v1) * (v2 + wid v1)) (fun v1 _ => v1.toNat) ?_ 1024 0 ⟨Or.inl rfl, by omega, by omega, by omega, by unfold wid; simp; omega⟩
  · obtain ⟨k1, h⟩ := hL
    exact ⟨_, k1, h, fun v3 v4 q => kk v4 q.1 q.2.1 q.2.2⟩
  · rintro m v1 v2 ⟨hb, h0, h1, h2, h3⟩ ih
    have hv : 0 ≤ v1 ∧ v1 ≤ 1024 := by unfold bitL at hb; omega
    refine ⟨⟨by omega, by omega⟩, fun h => ?_, fun h => ?_⟩
    · have e : v1 = 0 := by omega
      subst e
      exact ⟨h0, h2, h3⟩
    · obtain ⟨b1, b2, b3, b4, b5⟩ := bit_half hb (by omega)
      rintro v5 rfl
      have hq := sq_le (a := v2 + v1) (b := 2048) (by omega) (by omega)
      have hq0 := sq_0 (v2 + v1)
      refine ⟨⟨by omega, by omega⟩, ⟨by omega, by omega⟩, fun h4 => ?_, fun h4 => ?_⟩
      · rintro v6 rfl
        exact ih _ _ ⟨b1, h0, by omega, h2, by rw [b2]; exact h4⟩ (by omega)
      · rintro v7 rfl
        refine ih _ _ ⟨b1, by omega, by omega, by omega, ?_⟩ (by omega)
        rw [b2, show v2 + v1 + v1 = v2 + 2 * v1 by omega]
        have e : wid v1 = 2 * v1 := if_neg (by omega)
        rw [e] at h3
        exact h3
/-! the relation behind the searches -/
theorem Rel.gC {n d N : Int} {σ : kM} (h : Rel n d N σ) : GeoC n d N (σ 1) := ⟨h.1.1, h.1.2.1, h.1.2.2.1, h.1.2.2.2.1, h.1.2.2.2.2.1⟩
theorem Rel.gM {n d N : Int} {σ : kM} (h : Rel n d N σ) : GeoM n d N (σ 27) := h.1.2.2.2.2.2
theorem Rel.rim {n d N : Int} {σ : kM} (h : Rel n d N σ) : RimC n d (σ 8) := h.2.2.2.1.1.1.2.2
theorem Rel.gA {n d N : Int} {σ : kM} (h : Rel n d N σ) : σ 2 1 = d ∧ σ 2 2 = N := ⟨h.2.2.2.1.1.1.1, h.2.2.2.1.1.1.2.1⟩
theorem Rel.cls {n d N : Int} {σ s : kM} (h : Rel n d N σ) (hf : FrT σ s) (h12 : s 2 1 = d ∧ s 2 2 = N) (h3 : s 2 5 = 0) (hC : CacheG n d N (σ 8) (s 9) (s 10)) (hB : BestP d (rmf n d N (inn d (σ 8))) (s 2 4) (s 12 0) (s 12 1) (s 12 2) (s 12 3)) : Rel n d N s := by
  have e : ∀ c, c ≠ 2 → c ≠ 9 → c ≠ 10 → c ≠ 11 → c ≠ 12 → s c = σ c := hf
  obtain ⟨r1, r2, r3, r4, r5, r6, r7, r8, r9, r10⟩ := h
  unfold Rel
  simp only [e 1 (by decide) (by decide) (by decide) (by decide) (by decide), e 3 (by decide) (by decide) (by decide) (by decide) (by decide), e 4 (by decide) (by decide) (by decide) (by decide) (by decide), e 5 (by decide) (by decide) (by decide) (by decide) (by decide), e 6 (by decide) (by decide) (by decide) (by decide) (by decide), e 7 (by decide) (by decide) (by decide) (by decide) (by decide), e 8 (by decide) (by decide) (by decide) (by decide) (by decide), e 13 (by decide) (by decide) (by decide) (by decide) (by decide), e 14 (by decide) (by decide) (by decide) (by decide) (by decide), e 15 (by decide) (by decide) (by decide) (by decide) (by decide), e 16 (by decide) (by decide) (by decide) (by decide) (by decide), e 17 (by decide) (by decide) (by decide) (by decide) (by decide), e 18 (by decide) (by decide) (by decide) (by decide) (by decide), e 21 (by decide) (by decide) (by decide) (by decide) (by decide), e 22 (by decide) (by decide) (by decide) (by decide) (by decide), e 24 (by decide) (by decide) (by decide) (by decide) (by decide), e 25 (by decide) (by decide) (by decide) (by decide) (by decide), e 27 (by decide) (by decide) (by decide) (by decide) (by decide), e 28 (by decide) (by decide) (by decide) (by decide) (by decide), e 29 (by decide) (by decide) (by decide) (by decide) (by decide), e 30 (by decide) (by decide) (by decide) (by decide) (by decide), e 31 (by decide) (by decide) (by decide) (by decide) (by decide), e 32 (by decide) (by decide) (by decide) (by decide) (by decide), e 33 (by decide) (by decide) (by decide) (by decide) (by decide), e 34 (by decide) (by decide) (by decide) (by decide) (by decide), e 35 (by decide) (by decide) (by decide) (by decide) (by decide), e 36 (by decide) (by decide) (by decide) (by decide) (by decide), e 38 (by decide) (by decide) (by decide) (by decide) (by decide), e 39 (by decide) (by decide) (by decide) (by decide) (by decide), e 40 (by decide) (by decide) (by decide) (by decide) (by decide), e 41 (by decide) (by decide) (by decide) (by decide) (by decide), e 42 (by decide) (by decide) (by decide) (by decide) (by decide), e 43 (by decide) (by decide) (by decide) (by decide) (by decide)]
  exact ⟨r1, r2, hC, ⟨⟨⟨h12.1, h12.2, r4.1.1.2.2⟩, Or.inl h3⟩, fun _ => hB⟩, r5, r6, r7, r8, r9, r10⟩
theorem Rel.clsA {n d N : Int} {σ s : kM} (h : Rel n d N σ) (hf : FrA σ s) (hC : CacheG n d N (σ 8) (s 9) (s 10)) : Rel n d N s := by
  have e : ∀ c, c ≠ 9 → c ≠ 10 → c ≠ 11 → s c = σ c := hf
  obtain ⟨r1, r2, r3, r4, r5, r6, r7, r8, r9, r10⟩ := h
  unfold Rel
  simp only [e 1 (by decide) (by decide) (by decide), e 2 (by decide) (by decide) (by decide), e 3 (by decide) (by decide) (by decide), e 4 (by decide) (by decide) (by decide), e 5 (by decide) (by decide) (by decide), e 6 (by decide) (by decide) (by decide), e 7 (by decide) (by decide) (by decide), e 8 (by decide) (by decide) (by decide), e 12 (by decide) (by decide) (by decide), e 13 (by decide) (by decide) (by decide), e 14 (by decide) (by decide) (by decide), e 15 (by decide) (by decide) (by decide), e 16 (by decide) (by decide) (by decide), e 17 (by decide) (by decide) (by decide), e 18 (by decide) (by decide) (by decide), e 21 (by decide) (by decide) (by decide), e 22 (by decide) (by decide) (by decide), e 24 (by decide) (by decide) (by decide), e 25 (by decide) (by decide) (by decide), e 27 (by decide) (by decide) (by decide), e 28 (by decide) (by decide) (by decide), e 29 (by decide) (by decide) (by decide), e 30 (by decide) (by decide) (by decide), e 31 (by decide) (by decide) (by decide), e 32 (by decide) (by decide) (by decide), e 33 (by decide) (by decide) (by decide), e 34 (by decide) (by decide) (by decide), e 35 (by decide) (by decide) (by decide), e 36 (by decide) (by decide) (by decide), e 38 (by decide) (by decide) (by decide), e 39 (by decide) (by decide) (by decide), e 40 (by decide) (by decide) (by decide), e 41 (by decide) (by decide) (by decide), e 42 (by decide) (by decide) (by decide), e 43 (by decide) (by decide) (by decide)]
  exact ⟨r1, r2, hC, r4, r5, r6, r7, r8, r9, r10⟩
theorem Rel.mdl {n d N : Int} {σ s : kM} (h : Rel n d N σ) (hf : FrK σ s) (h6 : s 27 6 = 1) (hS : SqM n d N (σ 28) (s 29)) (hB : BestP d (rmf n d N (innM d (σ 28))) (s 27 7) (s 30 0) (s 30 1) (s 30 2) (s 30 3)) : Rel n d N s := by
  obtain ⟨e, f⟩ := hf
  obtain ⟨r1, r2, r3, r4, r5, r6, r7, r8, r9, r10⟩ := h
  unfold Rel
  simp only [e 1 (by decide) (by decide) (by decide), e 2 (by decide) (by decide) (by decide), e 3 (by decide) (by decide) (by decide), e 4 (by decide) (by decide) (by decide), e 5 (by decide) (by decide) (by decide), e 6 (by decide) (by decide) (by decide), e 7 (by decide) (by decide) (by decide), e 8 (by decide) (by decide) (by decide), e 9 (by decide) (by decide) (by decide), e 10 (by decide) (by decide) (by decide), e 12 (by decide) (by decide) (by decide), e 13 (by decide) (by decide) (by decide), e 14 (by decide) (by decide) (by decide), e 15 (by decide) (by decide) (by decide), e 16 (by decide) (by decide) (by decide), e 17 (by decide) (by decide) (by decide), e 18 (by decide) (by decide) (by decide), e 21 (by decide) (by decide) (by decide), e 22 (by decide) (by decide) (by decide), e 24 (by decide) (by decide) (by decide), e 25 (by decide) (by decide) (by decide), e 28 (by decide) (by decide) (by decide), e 31 (by decide) (by decide) (by decide), e 32 (by decide) (by decide) (by decide), e 33 (by decide) (by decide) (by decide), e 34 (by decide) (by decide) (by decide), e 35 (by decide) (by decide) (by decide), e 36 (by decide) (by decide) (by decide), e 38 (by decide) (by decide) (by decide), e 39 (by decide) (by decide) (by decide), e 40 (by decide) (by decide) (by decide), e 41 (by decide) (by decide) (by decide), e 42 (by decide) (by decide) (by decide), e 43 (by decide) (by decide) (by decide), f 1 (by decide) (by decide), f 2 (by decide) (by decide), f 3 (by decide) (by decide), f 9 (by decide) (by decide), f 10 (by decide) (by decide), f 11 (by decide) (by decide), f 12 (by decide) (by decide), f 16 (by decide) (by decide), f 20 (by decide) (by decide), f 21 (by decide) (by decide), f 22 (by decide) (by decide), f 28 (by decide) (by decide), f 31 (by decide) (by decide)]
  exact ⟨r1, r2, r3, r4, ⟨Or.inr h6, fun _ => ⟨hS, hB⟩⟩, r6, r7, r8, r9, r10⟩
theorem Rel.best {n d N : Int} {nn : Nat → Nat} {s : kM} (hP : Par n d N nn) (h : Rel n d N s) (h3 : s 2 5 = 0) : (0 ≤ s 2 4 ∧ s 2 4 ≤ 225) ∧ (inD d (s 12 0) (s 12 1) (s 12 2) (s 12 3)) ∧ (s 27 6 = 1 → s 27 7 = s 2 4 ∧ s 30 0 = s 12 0 ∧ s 30 1 = s 12 1 ∧ s 30 2 = s 12 2 ∧ s 30 3 = s 12 3) := by
  obtain ⟨r1, r2, r3, ⟨-, r4⟩, ⟨-, r5⟩, -⟩ := h
  have hB := r4 h3
  have hi := rm_in hP (inn_JO d (s 8)) hB.1
  rw [hB.2.1] at hi
  refine ⟨hi, hB.1, fun h6 => ?_⟩
  have hM := (r5 h6).2
  rw [rmf_M r2] at hM
  exact hB.one hM
theorem m_kn {n d N : Int} {nn : Nat → Nat} {σ : kM} {Pr : kM → Prop} (hP : Par n d N nn) (h : Rel n d N σ) (kk : ∀ s, Rel n d N s → s 27 6 = 1 → FrK σ s → Pr s) : wp_M_know nn σ Pr :=
  m_know hP h.gM (BitM.of h.2.1) h.2.2.2.2.1 (fun s q1 q2 q3 q4 => kk s (h.mdl q1 q2 q3 q4) q2 q1)
theorem p_st {n d N : Int} {nn : Nat → Nat} {σ : kM} {Pr : kM → Prop} (hP : Par n d N nn) (h : Rel n d N σ) (kk : ∀ s, Rel n d N s → s 2 5 = 0 → FrT σ s → Pr s) : wp_A_seekIfStale nn σ Pr :=
  s_stale hP h.gC (BitC.of h.2.1) h.2.2.1 h.2.2.2.1 (fun s q1 q0 q2 q3 q4 => kk s (h.cls q1 q0 q2 q3 q4) q2 q1)
theorem p_rad {n d N : Int} {nn : Nat → Nat} {σ : kM} {Pr : Int → kM → Prop} (hP : Par n d N nn) (h : Rel n d N σ) (kk : ∀ r s, Rel n d N s → s 2 5 = 0 → FrT σ s → RootP N (s 2 4) r → Pr r s) : wp_A_greatestRadius nn σ Pr := by
  refine ⟨fun s => Rel n d N s ∧ s 2 5 = 0 ∧ FrT σ s, p_st hP h (fun s q1 q2 q3 => ⟨q1, q2, q3⟩), ?_⟩
  rintro s ⟨q1, q2, q3⟩
  obtain ⟨hb, -⟩ := q1.best hP q2
  have hN := hP.1
  refine ⟨fun v => 0 ≤ v ∧ v * v ≤ s 2 4 * 10000 ∧ s 2 4 * 10000 < (v + 1) * (v + 1), p_root ⟨by omega, by omega⟩ (fun v a b c => ⟨a, b, c⟩), ?_⟩
  rintro v ⟨v1, v2, v3⟩
  have := root_le hb.2 v1 v2
  rw [q1.gA.2]
  exact ⟨⟨⟨by omega, by omega⟩, ⟨by omega, by omega⟩, v1, by omega⟩, kk _ s q1 q2 q3 ⟨v, v1, v2, v3, rfl⟩⟩
theorem m_rad {n d N : Int} {nn : Nat → Nat} {σ : kM} {Pr : Int → kM → Prop} (hP : Par n d N nn) (h : Rel n d N σ) (kk : ∀ r s, Rel n d N s → s 27 6 = 1 → s 27 0 = 0 → (∀ c, c ≠ 27 → c ≠ 29 → c ≠ 30 → s c = σ c) → RootP N (s 27 7) r → Pr r s) (hst : σ 2 5 = 0) : wp_M_radius nn σ Pr := by
  rintro s1 rfl
  refine ⟨fun s => Rel n d N s ∧ s 27 6 = 1 ∧ FrK (va_up σ 27 (va_up (σ 27) 0 0)) s, m_kn hP h.thr (fun s q1 q2 q3 => ⟨q1, q2, q3⟩), ?_⟩
  rintro s ⟨q1, q2, q3⟩
  have e2 : s 2 = σ 2 := q3.1 2 (by decide) (by decide) (by decide)
  obtain ⟨hb, -, hbb⟩ := q1.best hP (by rw [e2]; exact hst)
  obtain ⟨e7, -⟩ := hbb q2
  have hN := hP.1
  have hL := lp1 (lp_M_radius_11 nn s (fun v => 0 ≤ v ∧ v * v ≤ s 27 7 * 10000 ∧ s 27 7 * 10000 < (v + 1) * (v + 1))) (fun v => 0 ≤ v ∧ v * v ≤ s 27 7 * 10000) (fun v => (1501 - v).toNat) ?_ 0 ⟨by omega, by omega⟩
  · obtain ⟨k1, hk⟩ := hL
    refine ⟨_, k1, hk, ?_⟩
    rintro v ⟨v1, v2, v3⟩
    have := root_le (by omega) v1 v2
    rw [q1.gM.2.2]
    exact ⟨⟨⟨by omega, by omega⟩, ⟨by omega, by omega⟩, v1, by omega⟩, kk _ s q1 q2 (q3.2 0 (by decide) (by decide)) (fun c c1 c2 c3 => by rw [q3.1 c c1 c2 c3, up_ne _ _ c1]) ⟨v, v1, v2, v3, rfl⟩⟩
  · rintro m v ⟨v1, v2⟩ ih
    have hle := root_le (by omega) v1 v2
    have hq := sq_le (a := v + 1) (b := 1501) (by omega) (by omega)
    have hq0 := sq_0 (v + 1)
    refine ⟨⟨by omega, by omega⟩, ⟨by omega, by omega⟩, fun h4 => ⟨v1, v2, h4⟩, fun h4 => ?_⟩
    rintro v3 rfl
    exact ih _ ⟨by omega, by omega⟩ (by omega)
theorem r_room {n d N : Int} {nn : Nat → Nat} {xs : Nat → Int32} (hP : Par n d N nn) (i : Int) (σ : kM) (h : Rel n d N σ) : wl_1 nn xs i σ (Rel n d N) := by
  refine ⟨fun r s => Rel n d N s ∧ s 2 5 = 0 ∧ r = s 2 4, ⟨fun r s => Rel n d N s ∧ s 2 5 = 0 ∧ r = s 2 4, ⟨fun s => Rel n d N s ∧ s 2 5 = 0, p_st hP h (fun s q1 q2 _ => ⟨q1, q2⟩), fun s q => ⟨q.1, q.2, rfl⟩⟩, fun r s q => q⟩, ?_⟩
  rintro r1 s1 ⟨q1, q2, rfl⟩
  refine ⟨fun r s => Rel n d N s ∧ r = s1 2 4, ?_, ?_⟩
  · rintro s2 rfl
    refine ⟨fun s => Rel n d N s ∧ s 27 6 = 1 ∧ FrK (va_up s1 27 (va_up (s1 27) 0 0)) s, m_kn hP q1.thr (fun s p1 p2 p3 => ⟨p1, p2, p3⟩), ?_⟩
    rintro s ⟨p1, p2, p3⟩
    have e2 : s 2 = s1 2 := p3.1 2 (by decide) (by decide) (by decide)
    obtain ⟨-, -, hbb⟩ := p1.best hP (by rw [e2]; exact q2)
    exact ⟨p1, by rw [(hbb p2).1, e2]⟩
  · rintro r2 s2 ⟨p1, rfl⟩
    obtain ⟨hb, -⟩ := q1.best hP q2
    exact ⟨⟨by omega, by omega⟩, ⟨by omega, by omega⟩, fun _ => p1, fun hn => hn rfl⟩
theorem r_radius {n d N : Int} {nn : Nat → Nat} {xs : Nat → Int32} (hP : Par n d N nn) (i : Int) (σ : kM) (h : Rel n d N σ) : wl_3 nn xs i σ (Rel n d N) := by
  have hN := hP.1
  refine ⟨fun r s => Rel n d N s ∧ s 2 5 = 0 ∧ RootP N (s 2 4) r, ⟨fun r s => Rel n d N s ∧ s 2 5 = 0 ∧ RootP N (s 2 4) r, p_rad hP h (fun r s q1 q2 _ q3 => ⟨q1, q2, q3⟩), fun r s q => q⟩, ?_⟩
  rintro r1 s1 ⟨q1, q2, q3⟩
  obtain ⟨hb, -⟩ := q1.best hP q2
  have hr := q3.bnd hb.2 (by omega)
  refine ⟨fun r s => Rel n d N s ∧ r = r1, m_rad hP q1 (fun r s p1 p2 _ p3 p4 => ?_) q2, ?_⟩
  · have e2 : s 2 = s1 2 := p3 2 (by decide) (by decide) (by decide)
    obtain ⟨-, -, hbb⟩ := p1.best hP (by rw [e2]; exact q2)
    rw [(hbb p2).1, e2] at p4
    exact ⟨p1, q3.one p4⟩
  · rintro r2 s2 ⟨p1, rfl⟩
    exact ⟨⟨by omega, by omega⟩, ⟨by omega, by omega⟩, fun _ => p1, fun hn => hn rfl⟩
theorem nat4 {p : Int} (h : 0 ≤ p ∧ p ≤ 3) : p.toNat = 0 ∨ p.toNat = 1 ∨ p.toNat = 2 ∨ p.toNat = 3 := by omega
theorem r_axis {n d N : Int} {nn : Nat → Nat} {xs : Nat → Int32} (hP : Par n d N nn) (i : Int) (σ : kM) (h : Rel n d N σ) : wl_2 nn xs i σ (Rel n d N) := by
  have hN := hP.1
  have hp0 := xI_in xs (i + 1)
  unfold wl_2
  generalize xI xs (i + 1) = p0 at hp0 ⊢
  by_cases hw : 0 ≤ p0 ∧ p0 ≤ 3
  · have hin : 0 ≤ p0 ∧ p0 < 4 ∧ p0 < 2147483648 := by omega
    refine ⟨fun r s => r = 0 ∧ Rel n d N s ∧ s 2 5 = 0 ∧ s 26 0 = s 12 p0.toNat, Or.inl ⟨fun r s => Rel n d N s ∧ s 2 5 = 0 ∧ r = s 12 p0.toNat, ex_wB hp0 iR_0 ⟨by decide, by decide⟩ (fun _ _ => ⟨fun r s => Rel n d N s ∧ s 2 5 = 0 ∧ r = s 12 p0.toNat, ⟨fun s => Rel n d N s ∧ s 2 5 = 0, p_st hP h (fun s q1 q2 _ => ⟨q1, q2⟩), fun s q => ⟨hin, q.1, q.2, rfl⟩⟩, fun r s q => q⟩) (fun h => absurd hw h), ?_⟩, ?_⟩
    · rintro r s ⟨q1, q2, rfl⟩
      obtain ⟨-, ⟨b1, b2, b3, b4, b5, b6, b7, b8⟩, -⟩ := q1.best hP q2
      refine ⟨?_, fun s2 e => e ▸ ⟨rfl, q1.out, q2, rfl⟩⟩
      rcases nat4 hw with e | e | e | e <;> rw [e] <;> exact ⟨by omega, by omega⟩
    · rintro r1 s1 ⟨rfl, q1, q2, q3⟩
      refine ⟨fun r s => Rel n d N s ∧ s 27 0 = 0 ∧ s 26 0 = r ∧ iR r, ex_mA hp0 iR_0 ⟨by decide, by decide⟩ (fun _ _ => ?_) (fun h => absurd hw h), ?_⟩
      · rintro s2 rfl
        refine ⟨iR_0, fun _ => ⟨fun s => Rel n d N s ∧ s 27 6 = 1 ∧ FrK (va_up s1 27 (va_up (s1 27) 0 0)) s, m_kn hP q1.thr (fun s p1 p2 p3 => ⟨p1, p2, p3⟩), ?_⟩, fun h => absurd (Int.le_refl 0) h⟩
        rintro s ⟨p1, p2, p3⟩
        have e2 : s 2 = s1 2 := p3.1 2 (by decide) (by decide) (by decide)
        have e12 : s 12 = s1 12 := p3.1 12 (by decide) (by decide) (by decide)
        have e26 : s 26 = s1 26 := p3.1 26 (by decide) (by decide) (by decide)
        obtain ⟨-, ⟨b1, b2, b3, b4, b5, b6, b7, b8⟩, hbb⟩ := p1.best hP (by rw [e2]; exact q2)
        obtain ⟨-, c0, c1, c2, c3⟩ := hbb p2
        refine ⟨hin, p1, p3.2 0 (by decide) (by decide), ?_, ?_⟩
        · rw [e26, q3, ← e12]
          rcases nat4 hw with e | e | e | e <;> rw [e] <;> omega
        · rcases nat4 hw with e | e | e | e <;> rw [e] <;> exact ⟨by omega, by omega⟩
      · rintro r2 s2 ⟨p1, p2, p3, p4⟩
        exact cmpN p2 p4 p3 p1
  · refine ⟨fun r s => r = 1 ∧ s = σ, Or.inr ⟨fun k => k = 0, ex_wB hp0 iR_0 ⟨by decide, by decide⟩ (fun a b => absurd ⟨a, b⟩ hw) (fun _ => rfl), fun k hk => ⟨hk, rfl, rfl⟩⟩, ?_⟩
    rintro r1 s1 ⟨rfl, rfl⟩
    refine ⟨fun r s => s = va_up s1 27 (va_up (s1 27) 0 1), ex_mA hp0 iR_0 ⟨by decide, by decide⟩ (fun a b => absurd ⟨a, b⟩ hw) (fun _ => ?_), ?_⟩
    · rintro s2 rfl
      exact ⟨(⟨by decide, by decide⟩ : iR 1), fun (h : (1 : Int) ≤ 0) => absurd h (by decide), fun _ => rfl⟩
    · rintro r2 s2 rfl
      exact cmpT rfl (Or.inl rfl) h.thr
theorem ex_hcn {nn : Nat → Nat} {σ : kM} {n d N x y : Int} {A B : Prop} (hP : Par n d N nn) (hg : GeoC n d N (σ 1)) (hx : iR x) (hy : iR y) (h1 : (0 ≤ x ∧ x ≤ d) → (0 ≤ y ∧ y ≤ d) → B) (h0 : ¬ ((0 ≤ x ∧ x ≤ d) ∧ (0 ≤ y ∧ y ≤ d)) → A) : ∃ P : Int → Prop, wp_S_hasCorner nn σ x y P ∧ ∀ r : Int, P r → iR r ∧ ((r = 0 → A) ∧ (¬ r = 0 → B)) := by
  obtain ⟨⟨a1, a2, a3, a4, -⟩, -⟩ := hP
  refine ⟨fun r => (r = 0 ∧ A) ∨ (r = 1 ∧ B), ?_, ?_⟩
  · unfold wp_S_hasCorner
    rw [hg.2.1]
    exact ex_wA hx iR_0 ⟨by omega, by omega⟩ (fun c e => ex_wA hy iR_0 ⟨by omega, by omega⟩ (fun f g => Or.inr ⟨rfl, h1 ⟨c, e⟩ ⟨f, g⟩⟩) (fun h => Or.inl ⟨rfl, h0 (by omega)⟩)) (fun h => Or.inl ⟨rfl, h0 (by omega)⟩)
  · rintro r (⟨rfl, h⟩ | ⟨rfl, h⟩)
    · exact ⟨⟨by decide, by decide⟩, fun _ => h, fun h => absurd rfl h⟩
    · exact ⟨⟨by decide, by decide⟩, fun h => absurd h (by decide), fun _ => h⟩
theorem r_roomOf {n d N : Int} {nn : Nat → Nat} {xs : Nat → Int32} (hP : Par n d N nn) (i : Int) (σ : kM) (h : Rel n d N σ) : wl_4 nn xs i σ (Rel n d N) := by
  have hN := hP.1
  have hp0 := xI_in xs (i + 1)
  have hp1 := xI_in xs (i + 2)
  have hp2 := xI_in xs (i + 3)
  have hp3 := xI_in xs (i + 4)
  unfold wl_4
  generalize xI xs (i + 1) = p0 at hp0 ⊢
  generalize xI xs (i + 2) = p1 at hp1 ⊢
  generalize xI xs (i + 3) = p2 at hp2 ⊢
  generalize xI xs (i + 4) = p3 at hp3 ⊢
  have hnt : ∀ s : kM, Rel n d N s → ¬ inD d p0 p1 p2 p3 → ∀ Pr : Int → kM → Prop, Pr 0 (va_up s 27 (va_up (s 27) 0 1)) → wp_M_roomOf nn s p0 p1 p2 p3 Pr := by
    intro s hs hw Pr k
    have hn : jn_M_roomOf_55 nn p0 p1 p2 p3 s Pr 1 := by
      rintro s2 rfl
      exact ⟨(⟨by decide, by decide⟩ : iR 1), fun (h : (1 : Int) ≤ 0) => absurd h (by decide), fun _ => k⟩
    unfold wp_M_roomOf
    rw [hs.gM.2.1]
    exact ex_mA hp0 iR_0 ⟨by omega, by omega⟩ (fun a b => ex_mA hp1 iR_0 ⟨by omega, by omega⟩ (fun c e => ex_mA hp2 iR_0 ⟨by omega, by omega⟩ (fun f g => ex_mA hp3 iR_0 ⟨by omega, by omega⟩ (fun u v => absurd ⟨a, b, c, e, f, g, u, v⟩ hw) (fun _ => hn)) (fun _ => hn)) (fun _ => hn)) (fun _ => hn)
  by_cases hw : inD d p0 p1 p2 p3
  · have hr := rm_in hP (inn_JO d (σ 8)) hw
    obtain ⟨b1, b2, b3, b4, b5, b6, b7, b8⟩ := id hw
    refine ⟨fun r s => r = 0 ∧ Rel n d N s ∧ s 26 0 = rmf n d N (inn d (σ 8)) p0 p1 p2 p3 ∧ s 8 = σ 8, Or.inl ⟨fun r s => Rel n d N s ∧ r = rmf n d N (inn d (σ 8)) p0 p1 p2 p3 ∧ s 8 = σ 8, ex_hcn hP h.gC hp0 hp1 (fun _ _ => ?_) (fun q => absurd ⟨⟨b1, b2⟩, b3, b4⟩ q), ?_⟩, ?_⟩
    · obtain ⟨P, k1, k2⟩ := ex_hcn (nn := nn) (σ := σ) (A := False) (B := True) hP h.gC hp2 hp3 (fun _ _ => trivial) (fun q => absurd ⟨⟨b5, b6⟩, b7, b8⟩ q)
      refine ⟨P, k1, fun r hr2 => ⟨(k2 r hr2).1, fun _ => ?_, fun q => ((k2 r hr2).2.1 q).elim⟩⟩
      refine ⟨fun r s => Rel n d N s ∧ r = rmf n d N (inn d (σ 8)) p0 p1 p2 p3 ∧ s 8 = σ 8, ?_, fun r s q => q⟩
      refine ⟨fun s => FrA σ s ∧ CacheG n d N (σ 8) (s 9) (s 10) ∧ FreshC n d N (σ 8) (s 9), s_mwc hP h.gC (BitC.of h.2.1) h.rim h.2.2.1 (fun s q1 q2 q3 => ⟨q1, q2, q3⟩), ?_⟩
      rintro s1 ⟨q1, q2, q3⟩
      have u := h.clsA q1 q2
      have e8 : s1 8 = σ 8 := q1 8 (by decide) (by decide) (by decide)
      exact ⟨fun v => v = rmf n d N (inn d (σ 8)) p0 p1 p2 p3, s_above (σ := s1) hP u.gC u.gA.2 (by rw [e8]; exact q3) hw ⟨by omega, by omega⟩ (fun v c1 c2 => by rw [e8] at c2; omega), fun r e => ⟨u, e, e8⟩⟩
    · rintro r s ⟨q1, rfl, q2⟩
      exact ⟨⟨by omega, by omega⟩, fun s2 e => e ▸ ⟨rfl, q1.out, rfl, q2⟩⟩
    · rintro r1 s1 ⟨rfl, q1, q2, q3⟩
      refine ⟨fun r s => Rel n d N s ∧ s 27 0 = 0 ∧ s 26 0 = r ∧ iR r, ?_, ?_⟩
      · unfold wp_M_roomOf
        rw [q1.gM.2.1]
        refine ex_mA hp0 iR_0 ⟨by omega, by omega⟩ (fun _ _ => ex_mA hp1 iR_0 ⟨by omega, by omega⟩ (fun _ _ => ex_mA hp2 iR_0 ⟨by omega, by omega⟩ (fun _ _ => ex_mA hp3 iR_0 ⟨by omega, by omega⟩ (fun _ _ => ?_) (fun q => absurd ⟨b7, b8⟩ q)) (fun q => absurd ⟨b5, b6⟩ q)) (fun q => absurd ⟨b3, b4⟩ q)) (fun q => absurd ⟨b1, b2⟩ q)
        rintro s2 rfl
        refine ⟨iR_0, fun _ => ⟨fun s => Rel n d N s ∧ s 27 6 = 1 ∧ FrK (va_up s1 27 (va_up (s1 27) 0 0)) s, m_kn hP q1.thr (fun s p1 p2 p3 => ⟨p1, p2, p3⟩), ?_⟩, fun h => absurd (Int.le_refl 0) h⟩
        rintro s ⟨u1, u2, u3⟩
        have e8 : s 8 = s1 8 := u3.1 8 (by decide) (by decide) (by decide)
        have e26 : s 26 = s1 26 := u3.1 26 (by decide) (by decide) (by decide)
        have hS := (u1.2.2.2.2.1.2 u2).1
        refine ⟨fun r => r = rmf n d N (inn d (σ 8)) p0 p1 p2 p3, m_roomAt hP u1.gM hS hw (by rw [rmf_M u1.2.1, e8, q3]), ?_⟩
        rintro r rfl
        exact ⟨u1, u3.2 0 (by decide) (by decide), by rw [e26]; exact q2, ⟨by omega, by omega⟩⟩
      · rintro r2 s2 ⟨u1, u2, u3, u4⟩
        exact cmpN u2 u4 u3 u1
  · refine ⟨fun r s => r = 1 ∧ s = σ, Or.inr ⟨fun k => k = 0, ex_hcn hP h.gC hp0 hp1 (fun a b => ?_) (fun _ => rfl), fun k hk => ⟨hk, rfl, rfl⟩⟩, ?_⟩
    · obtain ⟨P, k1, k2⟩ := ex_hcn (nn := nn) (σ := σ) (A := True) (B := False) hP h.gC hp2 hp3 (fun c e => hw ⟨a.1, a.2, b.1, b.2, c.1, c.2, e.1, e.2⟩) (fun q => trivial)
      exact ⟨P, k1, fun r hr => ⟨(k2 r hr).1, fun q => (k2 r hr).2.2 q, fun _ => rfl⟩⟩
    · rintro r1 s1 ⟨rfl, rfl⟩
      refine ⟨fun r s => s = va_up s1 27 (va_up (s1 27) 0 1), hnt s1 h hw _ rfl, ?_⟩
      rintro r2 s2 rfl
      exact cmpT rfl (Or.inl rfl) h.thr
