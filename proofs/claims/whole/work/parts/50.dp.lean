/-! leaves clipped from the end on: what both reckon -/
def Fit (T : Int) (w b mk : Nat → Int) (l : Nat) (s : Int) : Prop := s + w l ≤ T ∧ ∀ k : Int, s ≤ k → k < s + w l → kAnd (mk k.toNat) (b l) = 0
def vl (w v V : Nat → Int) (l : Nat) (s : Int) : Int := v l * 2001 + V (s + w l).toNat
def DP1 (T L : Int) (w v b mk V : Nat → Int) (s : Int) : Prop := V (s + 1).toNat - 1 ≤ V s.toNat ∧ (∀ l : Nat, (l : Int) < L → Fit T w b mk l s → vl w v V l s ≤ V s.toNat) ∧ (V s.toNat = V (s + 1).toNat - 1 ∨ ∃ l : Nat, (l : Int) < L ∧ Fit T w b mk l s ∧ V s.toNat = vl w v V l s)
def DPs (T L : Int) (w v b mk V : Nat → Int) (s0 : Int) : Prop := V T.toNat = 0 ∧ ∀ s : Int, s0 ≤ s → s < T → DP1 T L w v b mk V s
def ChP (T L : Int) (w v b mk V : Nat → Int) (s c : Int) : Prop := (c = -1 ∧ ∀ l : Nat, (l : Int) < L → Fit T w b mk l s → ¬ vl w v V l s = V s.toNat) ∨ (0 ≤ c ∧ c < L ∧ Fit T w b mk c.toNat s ∧ vl w v V c.toNat s = V s.toNat ∧ ∀ l : Nat, (l : Int) < c → Fit T w b mk l s → ¬ vl w v V l s = V s.toNat)
/-- the leaves' numbers -/
def LW (L : Int) (w v b : Nat → Int) : Prop := 0 ≤ L ∧ L ≤ 6 ∧ (∀ j, 0 ≤ w j ∧ w j ≤ 500 ∧ 0 ≤ v j ∧ v j ≤ 1000000 ∧ 0 ≤ b j ∧ b j ≤ 15) ∧ ∀ j : Nat, (j : Int) < L → 1 ≤ w j
section DPX
variable {T L : Int} {w v b mk V V' : Nat → Int}
theorem vl_cg {l : Nat} {s : Int} (hw : 0 ≤ w l) (hf : Fit T w b mk l s) (h : ∀ j : Int, s ≤ j → j ≤ T → V j.toNat = V' j.toNat) : vl w v V l s = vl w v V' l s := by
  unfold vl
  rw [h (s + w l) (by omega) hf.1]
theorem DP1.cg {s : Int} (hw : ∀ j, 0 ≤ w j) (h : ∀ j : Int, s ≤ j → j ≤ T → V j.toNat = V' j.toNat) (hs : s < T) (k : DP1 T L w v b mk V s) : DP1 T L w v b mk V' s := by
  have e0 := h s (by omega) (by omega)
  have e1 := h (s + 1) (by omega) (by omega)
  obtain ⟨k1, k2, k3⟩ := k
  refine ⟨by omega, fun l hl hf => ?_, ?_⟩
  · have := k2 l hl hf
    rw [vl_cg (hw l) hf h] at this
    omega
  · rcases k3 with k3 | ⟨l, hl, hf, k3⟩
    · exact Or.inl (by omega)
    · rw [vl_cg (hw l) hf h] at k3
      exact Or.inr ⟨l, hl, hf, by omega⟩
theorem DPs.cg {s0 : Int} (hw : ∀ j, 0 ≤ w j) (h : ∀ j : Int, s0 ≤ j → j ≤ T → V j.toNat = V' j.toNat) (h0 : s0 ≤ T) (k : DPs T L w v b mk V s0) : DPs T L w v b mk V' s0 :=
  ⟨by rw [← h T h0 (by omega)]; exact k.1, fun s a c => (k.2 s a c).cg hw (fun j j1 j2 => h j (by omega) j2) c⟩
theorem ChP.cg {s c : Int} (hw : ∀ j, 0 ≤ w j) (h : ∀ j : Int, s ≤ j → j ≤ T → V j.toNat = V' j.toNat) (hs : s < T) (k : ChP T L w v b mk V s c) : ChP T L w v b mk V' s c := by
  have e0 := h s (by omega) (by omega)
  rcases k with ⟨k1, k2⟩ | ⟨k1, k2, k3, k4, k5⟩
  · exact Or.inl ⟨k1, fun l hl hf => by rw [← vl_cg (hw l) hf h, ← e0]; exact k2 l hl hf⟩
  · exact Or.inr ⟨k1, k2, k3, by rw [← vl_cg (hw _) k3 h, ← e0]; exact k4, fun l hl hf => by rw [← vl_cg (hw l) hf h, ← e0]; exact k5 l hl hf⟩
theorem ChP.one {s c c' : Int} (k : ChP T L w v b mk V s c) (k' : ChP T L w v b mk V s c') : c' = c := by
  rcases k with ⟨k1, k2⟩ | ⟨k1, k2, k3, k4, k5⟩
  · rcases k' with ⟨q1, q2⟩ | ⟨q1, q2, q3, q4, q5⟩
    · omega
    · exact absurd q4 (k2 c'.toNat (by omega) q3)
  · rcases k' with ⟨q1, q2⟩ | ⟨q1, q2, q3, q4, q5⟩
    · exact absurd k4 (q2 c.toNat (by omega) k3)
    · have h1 : ¬ c < c' := fun h => absurd k4 (q5 c.toNat (by omega) k3)
      have h2 : ¬ c' < c := fun h => absurd q4 (k5 c'.toNat (by omega) q3)
      omega
theorem DPs.one (hw : ∀ j, 0 ≤ w j) (hw1 : ∀ j : Nat, (j : Int) < L → 1 ≤ w j) (k : DPs T L w v b mk V 0) (k' : DPs T L w v b mk V' 0) : ∀ (n : Nat) (s : Int), T - s ≤ (n : Int) → 0 ≤ s → s ≤ T → V s.toNat = V' s.toNat := by
  intro n
  induction n with
  | zero =>
    intro s h1 h2 h3
    have e : s = T := by omega
    rw [e, k.1, k'.1]
  | succ n ih =>
    intro s h1 h2 h3
    by_cases e : s = T
    · rw [e, k.1, k'.1]
    · have e1 := ih (s + 1) (by omega) (by omega) (by omega)
      have hst : s < T := by omega
      obtain ⟨a1, a2, a3⟩ := k.2 s h2 hst
      obtain ⟨c1, c2, c3⟩ := k'.2 s h2 hst
      have ev : ∀ l : Nat, (l : Int) < L → Fit T w b mk l s → vl w v V l s = vl w v V' l s := fun l hl hf => by
        have := hw1 l hl
        unfold vl
        rw [ih (s + w l) (by omega) (by omega) hf.1]
      have hle : V s.toNat ≤ V' s.toNat := by
        rcases a3 with a3 | ⟨l, hl, hf, a3⟩
        · omega
        · have := c2 l hl hf
          rw [← ev l hl hf] at this
          omega
      have hge : V' s.toNat ≤ V s.toNat := by
        rcases c3 with c3 | ⟨l, hl, hf, c3⟩
        · omega
        · have := a2 l hl hf
          rw [ev l hl hf] at this
          omega
      omega
theorem DPs.bnd {s0 : Int} (hL : LW L w v b) (k : DPs T L w v b mk V s0) : ∀ (n : Nat) (s : Int), T - s ≤ (n : Int) → s0 ≤ s → s ≤ T → -(T - s) ≤ V s.toNat ∧ V s.toNat ≤ 2001000000 * (T - s) := by
  intro n
  induction n with
  | zero =>
    intro s h1 h2 h3
    have e : s = T := by omega
    rw [e, k.1]
    omega
  | succ n ih =>
    intro s h1 h2 h3
    by_cases e : s = T
    · rw [e, k.1]; omega
    · obtain ⟨a1, a2, a3⟩ := k.2 s h2 (by omega)
      have e1 := ih (s + 1) (by omega) (by omega) (by omega)
      refine ⟨by omega, ?_⟩
      rcases a3 with a3 | ⟨l, hl, hf, a3⟩
      · omega
      · have w1 := hL.2.2.2 l hl
        have v1 := hL.2.2.1 l
        have e2 := ih (s + w l) (by omega) (by omega) hf.1
        unfold vl at a3
        omega
/-- up to which step a leaf may reach from step s on -/
def CU (T : Int) (b mk : Nat → Int) (s : Int) (l : Nat) (u : Int) : Prop := s ≤ u ∧ u ≤ T ∧ (∀ k : Int, s ≤ k → k < u → kAnd (mk k.toNat) (b l) = 0) ∧ (u = T ∨ ¬ kAnd (mk u.toNat) (b l) = 0)
theorem CU.fit {s u : Int} {l : Nat} (h : CU T b mk s l u) : Fit T w b mk l s ↔ s + w l ≤ u := by
  obtain ⟨h1, h2, h3, h4⟩ := h
  constructor
  · rintro ⟨f1, f2⟩
    rcases h4 with h4 | h4
    · omega
    · by_cases hh : s + w l ≤ u
      · exact hh
      · exact absurd (f2 u h1 (by omega)) h4
  · intro hh
    exact ⟨by omega, fun k k1 k2 => h3 k k1 (by omega)⟩
theorem CU.bar {s u : Int} {l : Nat} (hs : s < T) (hb : ¬ kAnd (mk s.toNat) (b l) = 0) : CU T b mk s l s := ⟨by omega, by omega, fun k k1 k2 => by omega, Or.inr hb⟩
theorem CU.pass {s u : Int} {l : Nat} (h : CU T b mk (s + 1) l u) (hb : kAnd (mk s.toNat) (b l) = 0) : CU T b mk s l u := by
  obtain ⟨h1, h2, h3, h4⟩ := h
  refine ⟨by omega, h2, fun k k1 k2 => ?_, h4⟩
  by_cases e : k = s
  · rw [e]; exact hb
  · exact h3 k (by omega) k2
/-- the best of waste and the leaves above v2, the class's way: from the last leaf on -/
def XP (T L : Int) (w v b mk V : Nat → Int) (s v2 X c : Int) : Prop := V (s + 1).toNat - 1 ≤ X ∧ (∀ l : Nat, v2 < (l : Int) → (l : Int) < L → Fit T w b mk l s → vl w v V l s ≤ X) ∧ ((c = -1 ∧ X = V (s + 1).toNat - 1 ∧ ∀ l : Nat, v2 < (l : Int) → (l : Int) < L → Fit T w b mk l s → vl w v V l s < X) ∨ (v2 < c ∧ 0 ≤ c ∧ c < L ∧ Fit T w b mk c.toNat s ∧ X = vl w v V c.toNat s ∧ ∀ l : Nat, v2 < (l : Int) → (l : Int) < c → Fit T w b mk l s → vl w v V l s < X))
theorem XP.skip {s v2 X c : Int} (h : XP T L w v b mk V s v2 X c) (h0 : 0 ≤ v2) (hl : v2 < L) (hn : Fit T w b mk v2.toNat s → vl w v V v2.toNat s < X) : XP T L w v b mk V s (v2 + -1) X c := by
  have key : ∀ l : Nat, v2 + -1 < (l : Int) → ¬ v2 < (l : Int) → l = v2.toNat := fun l a b => by omega
  obtain ⟨h1, h2, h3⟩ := h
  refine ⟨h1, fun l a1 a2 hf => ?_, ?_⟩
  · by_cases e : v2 < (l : Int)
    · exact h2 l e a2 hf
    · rw [key l a1 e] at hf ⊢
      have := hn hf
      omega
  · rcases h3 with ⟨q1, q2, q3⟩ | ⟨q1, q2, q3, q4, q5, q6⟩
    · refine Or.inl ⟨q1, q2, fun l a1 a2 hf => ?_⟩
      by_cases e : v2 < (l : Int)
      · exact q3 l e a2 hf
      · rw [key l a1 e] at hf ⊢
        exact hn hf
    · refine Or.inr ⟨by omega, q2, q3, q4, q5, fun l a1 a2 hf => ?_⟩
      by_cases e : v2 < (l : Int)
      · exact q6 l e a2 hf
      · rw [key l a1 e] at hf ⊢
        exact hn hf
theorem XP.take {s v2 X c : Int} (h : XP T L w v b mk V s v2 X c) (h0 : 0 ≤ v2) (hl : v2 < L) (hf : Fit T w b mk v2.toNat s) (hx : X ≤ vl w v V v2.toNat s) : XP T L w v b mk V s (v2 + -1) (vl w v V v2.toNat s) v2 := by
  obtain ⟨h1, h2, -⟩ := h
  refine ⟨by omega, fun l a1 a2 hf2 => ?_, Or.inr ⟨by omega, h0, hl, hf, rfl, fun l a1 a2 _ => by omega⟩⟩
  by_cases e : v2 < (l : Int)
  · have := h2 l e a2 hf2
    omega
  · rw [show l = v2.toNat by omega]
    exact Int.le_refl _
theorem XP.done {s X c : Int} (hw : ∀ j : Nat, (j : Int) < L → 1 ≤ w j) (h : XP T L w v b mk V s (-1) X c) (h0 : 0 ≤ s) (hV : V' s.toNat = X) (hE : ∀ j : Nat, j ≠ s.toNat → V' j = V j) : DP1 T L w v b mk V' s ∧ ChP T L w v b mk V' s c := by
  have ev : ∀ l : Nat, (l : Int) < L → vl w v V' l s = vl w v V l s := fun l hl => by
    have := hw l hl
    unfold vl
    rw [hE (s + w l).toNat (by omega)]
  have e1 : V' (s + 1).toNat = V (s + 1).toNat := hE _ (by omega)
  obtain ⟨h1, h2, h3⟩ := h
  constructor
  · refine ⟨by omega, fun l hl hf => ?_, ?_⟩
    · rw [ev l hl, hV]; exact h2 l (by omega) hl hf
    · rcases h3 with ⟨q1, q2, q3⟩ | ⟨q1, q2, q3, q4, q5, q6⟩
      · exact Or.inl (by omega)
      · exact Or.inr ⟨c.toNat, by omega, q4, by rw [ev _ (by omega)]; omega⟩
  · rcases h3 with ⟨q1, q2, q3⟩ | ⟨q1, q2, q3, q4, q5, q6⟩
    · exact Or.inl ⟨q1, fun l hl hf => by rw [ev l hl, hV]; have := q3 l (by omega) hl hf; omega⟩
    · exact Or.inr ⟨q2, q3, q4, by rw [ev _ (by omega), hV]; exact q5.symm, fun l hl hf => by rw [ev l (by omega), hV]; have := q6 l (by omega) hl hf; omega⟩
end DPX
/-- the marks -/
def mkA (pl kd : Nat → Int) (st : Int) : Nat → Nat → Int
  | 0 => fun _ => 0
  | f + 1 => if pl f = -1 then mkA pl kd st f else va_up (mkA pl kd st f) (pl f / st).toNat (kOr (mkA pl kd st f (pl f / st).toNat) (kShl 1 (kd f)))
theorem mkA_skip {pl kd : Nat → Int} {st : Int} {f : Nat} (h : pl f = -1) : mkA pl kd st (f + 1) = mkA pl kd st f := by
  rw [mkA, if_pos h]
theorem mkA_put {pl kd : Nat → Int} {st : Int} {f : Nat} (h : ¬ pl f = -1) : mkA pl kd st (f + 1) = va_up (mkA pl kd st f) (pl f / st).toNat (kOr (mkA pl kd st f (pl f / st).toNat) (kShl 1 (kd f))) := by
  rw [mkA, if_neg h]
theorem kA_comm (a b : Int) : kAnd a b = kAnd b a := by
  unfold kAnd
  rw [Int32.and_comm]
/-- the chosen leaves in their order: eN: where the k-th may begin -/
def eN (w c f : Nat → Int) : Nat → Int
  | 0 => 0
  | k + 1 => f k + w (c (f k).toNat).toNat
def Rk (T : Int) (w c f : Nat → Int) (k : Nat) : Prop := eN w c f k ≤ f k ∧ 0 ≤ f k ∧ f k < T ∧ (∀ j : Int, eN w c f k ≤ j → j < f k → c j.toNat = -1) ∧ ¬ c (f k).toNat = -1
def RecC (T : Int) (w c f : Nat → Int) (C : Int) : Prop := 0 ≤ C ∧ (∀ k : Nat, (k : Int) < C → Rk T w c f k) ∧ ∀ j : Int, eN w c f C.toNat ≤ j → j < T → c j.toNat = -1
theorem eN_cg {w c f f' : Nat → Int} : ∀ {k : Nat}, (∀ j, j < k → f j = f' j) → eN w c f k = eN w c f' k
  | 0, _ => rfl
  | k + 1, h => by
    show f k + w (c (f k).toNat).toNat = f' k + w (c (f' k).toNat).toNat
    rw [h k (by omega)]
theorem Rk.cg {T : Int} {w c f f' : Nat → Int} {k : Nat} (h : ∀ j, j ≤ k → f j = f' j) (r : Rk T w c f k) : Rk T w c f' k := by
  unfold Rk at *
  rw [← h k (Nat.le_refl _), ← eN_cg (f := f) (f' := f') (fun j hj => h j (by omega))]
  exact r
