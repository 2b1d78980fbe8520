/-! how near what is not IN comes: facts -/
theorem mnT_le_b (b : Int) (f : Nat → Int) : ∀ k, mnT b f k ≤ b
  | 0 => Int.le_refl _
  | k + 1 => by
    have := mnT_le_b b f k
    unfold mnT
    split <;> omega
theorem mnT_le {b : Int} {f : Nat → Int} {j : Nat} : ∀ {k : Nat}, j < k → mnT b f k ≤ f j
  | 0, h => absurd h (Nat.not_lt_zero _)
  | k + 1, h => by
    by_cases e : j = k
    · subst e
      unfold mnT
      split <;> omega
    · have := mnT_le (b := b) (f := f) (j := j) (k := k) (by omega)
      unfold mnT
      split <;> omega
theorem mnT_mem (b : Int) (f : Nat → Int) : ∀ k, mnT b f k = b ∨ ∃ j, j < k ∧ mnT b f k = f j
  | 0 => Or.inl rfl
  | k + 1 => by
    unfold mnT
    split
    · exact Or.inr ⟨k, by omega, rfl⟩
    · rcases mnT_mem b f k with h | ⟨j, h1, h2⟩
      · exact Or.inl h
      · exact Or.inr ⟨j, by omega, h2⟩
theorem mnT_ge {b m : Int} {f : Nat → Int} (hb : m ≤ b) : ∀ {k : Nat}, (∀ j, j < k → m ≤ f j) → m ≤ mnT b f k
  | 0, _ => hb
  | k + 1, h => by
    have h1 := h k (by omega)
    have h2 := mnT_ge (f := f) hb (k := k) (fun j hj => h j (by omega))
    unfold mnT
    split <;> omega
theorem mnT_congr {b : Int} {f g : Nat → Int} : ∀ {k : Nat}, (∀ j, j < k → f j = g j) → mnT b f k = mnT b g k
  | 0, _ => rfl
  | k + 1, h => by
    unfold mnT
    rw [h k (by omega), mnT_congr (k := k) (fun j hj => h j (by omega))]
theorem sq_le {a b : Int} (h0 : 0 ≤ a) (h1 : a ≤ b) : a * a ≤ b * b := Int.mul_le_mul h1 h1 h0 (by omega)
theorem sq_0 (a : Int) : 0 ≤ a * a := by
  rcases Int.le_total 0 a with h | h
  · exact Int.mul_nonneg h h
  · exact Int.mul_nonneg_of_nonpos_of_nonpos h h
theorem gp_0 (N p c : Int) : 0 ≤ gp N p c := by
  unfold gp
  split
  · omega
  · split <;> omega
theorem dN_in {d N : Int} (hd : 1 ≤ d ∧ d ≤ 10) (hN : 1 ≤ N ∧ N ≤ 3) : 1 ≤ d * N ∧ d * N ≤ 30 := by
  have h1 : 1 * 1 ≤ d * N := Int.mul_le_mul hd.1 hN.1 (by decide) (by omega)
  have h2 : d * N ≤ 10 * 3 := Int.mul_le_mul hd.2 hN.2 (by omega) (by decide)
  omega
theorem gp_le {d N p c : Int} (hd : 1 ≤ d ∧ d ≤ 10) (hN : 1 ≤ N ∧ N ≤ 3) (hp : 0 ≤ p ∧ p ≤ d * N) (hc : -1 ≤ c ∧ c ≤ d) : gp N p c ≤ 30 := by
  have h0 := dN_in hd hN
  have h1 : c * N ≤ d * N := Int.mul_le_mul_of_nonneg_right hc.2 (by omega)
  have h2 : (-1) * N ≤ c * N := Int.mul_le_mul_of_nonneg_right hc.1 (by omega)
  unfold gp
  split
  · omega
  · split <;> omega
theorem gsq_le {d N p c : Int} (hd : 1 ≤ d ∧ d ≤ 10) (hN : 1 ≤ N ∧ N ≤ 3) (hp : 0 ≤ p ∧ p ≤ d * N) (hc : -1 ≤ c ∧ c ≤ d) : 0 ≤ gp N p c * gp N p c ∧ gp N p c * gp N p c ≤ 900 :=
  ⟨sq_0 _, sq_le (gp_0 N p c) (gp_le hd hN hp hc)⟩
theorem gp_lo {N p : Int} (hN : 1 ≤ N) (hp : 0 ≤ p) : gp N p (-1) = p := by
  unfold gp
  split
  · omega
  · split <;> omega
theorem gp_hi {N d p : Int} (hN : 1 ≤ N) (hp : p ≤ d * N) : gp N p d = d * N - p := by
  unfold gp
  split
  · omega
  · split <;> omega
theorem gp_at {N p : Int} (hN : 1 ≤ N) : gp N p (p / N) = 0 := by
  have h1 : p / N * N ≤ p := Int.ediv_mul_le _ (by omega)
  have h2 : p < (p / N + 1) * N := Int.lt_ediv_add_one_mul_self _ (by omega)
  rw [Int.add_mul] at h2
  unfold gp
  split
  · omega
  · split <;> omega
theorem gp_out {N d p c : Int} (hN : 1 ≤ N) (hp : 0 ≤ p ∧ p ≤ d * N) : (c = -1 → p ≤ gp N p c) ∧ (c = d → d * N - p ≤ gp N p c) := by
  constructor
  · rintro rfl; rw [gp_lo hN hp.1]; exact Int.le_refl _
  · rintro rfl; rw [gp_hi hN hp.2]; exact Int.le_refl _
section NR
variable {d N : Int} {I : Int → Int → Int}
theorem col_le {x py y : Int} (hy : -1 ≤ y ∧ y ≤ d) (h : I x y = 0) : col d N I x py ≤ gp N py y * gp N py y := by
  have := mnT_le (b := 2147483647) (f := fun j : Nat => if I x ((j : Int) - 1) = 0 then gp N py ((j : Int) - 1) * gp N py ((j : Int) - 1) else 2147483647) (j := (y + 1).toNat) (k := (d + 2).toNat) (by omega)
  have e : (((y + 1).toNat : Nat) : Int) - 1 = y := by omega
  simp only [e, h, if_true] at this
  exact this
theorem col_ge {x py : Int} : 0 ≤ col d N I x py := by
  refine mnT_ge (by decide) (fun j _ => ?_)
  split
  · exact sq_0 _
  · decide
theorem col_mem {x py : Int} (hd : 1 ≤ d ∧ d ≤ 10) (hN : 1 ≤ N ∧ N ≤ 3) (hp : 0 ≤ py ∧ py ≤ d * N) (h : I x (-1) = 0) : (∃ y, -1 ≤ y ∧ y ≤ d ∧ I x y = 0 ∧ col d N I x py = gp N py y * gp N py y) ∧ col d N I x py ≤ 900 := by
  have h1 := col_le (d := d) (N := N) (I := I) (x := x) (py := py) (y := -1) ⟨by omega, by omega⟩ h
  have h2 := gsq_le hd hN hp (c := -1) ⟨by omega, by omega⟩
  refine ⟨?_, by omega⟩
  rcases mnT_mem 2147483647 (fun j : Nat => if I x ((j : Int) - 1) = 0 then gp N py ((j : Int) - 1) * gp N py ((j : Int) - 1) else 2147483647) (d + 2).toNat with h3 | ⟨j, h3, h4⟩
  · have h3 : col d N I x py = 2147483647 := h3
    omega
  · have h4 : col d N I x py = if I x ((j : Int) - 1) = 0 then gp N py ((j : Int) - 1) * gp N py ((j : Int) - 1) else 2147483647 := h4
    by_cases h5 : I x ((j : Int) - 1) = 0
    · rw [if_pos h5] at h4
      exact ⟨(j : Int) - 1, by omega, by omega, h5, h4⟩
    · rw [if_neg h5] at h4
      omega
theorem near_le {x y px py : Int} (hx : -1 ≤ x ∧ x ≤ d) (hy : -1 ≤ y ∧ y ≤ d) (h : I x y = 0) : near d N I px py ≤ gp N px x * gp N px x + gp N py y * gp N py y := by
  have h1 := mnT_le (b := 2147483647) (f := fun j : Nat => gp N px ((j : Int) - 1) * gp N px ((j : Int) - 1) + col d N I ((j : Int) - 1) py) (j := (x + 1).toNat) (k := (d + 2).toNat) (by omega)
  have e : (((x + 1).toNat : Nat) : Int) - 1 = x := by omega
  simp only [e] at h1
  have h2 := col_le (d := d) (N := N) (I := I) (x := x) (py := py) hy h
  have h3 : near d N I px py ≤ gp N px x * gp N px x + col d N I x py := h1
  omega
theorem near_mem {px py : Int} (hd : 1 ≤ d ∧ d ≤ 10) (hN : 1 ≤ N ∧ N ≤ 3) (hpx : 0 ≤ px ∧ px ≤ d * N) (hpy : 0 ≤ py ∧ py ≤ d * N) (hI : ∀ x y, ¬ (0 ≤ x ∧ x < d ∧ 0 ≤ y ∧ y < d) → I x y = 0) : ∃ x y, -1 ≤ x ∧ x ≤ d ∧ -1 ≤ y ∧ y ≤ d ∧ I x y = 0 ∧ near d N I px py = gp N px x * gp N px x + gp N py y * gp N py y := by
  have h1 := near_le (d := d) (N := N) (I := I) (x := -1) (y := -1) (px := px) (py := py) ⟨by omega, by omega⟩ ⟨by omega, by omega⟩ (hI _ _ (by omega))
  have h2 := gsq_le hd hN hpx (c := -1) ⟨by omega, by omega⟩
  have h3 := gsq_le hd hN hpy (c := -1) ⟨by omega, by omega⟩
  rcases mnT_mem 2147483647 (fun j : Nat => gp N px ((j : Int) - 1) * gp N px ((j : Int) - 1) + col d N I ((j : Int) - 1) py) (d + 2).toNat with h4 | ⟨j, h4, h5⟩
  · have h4 : near d N I px py = 2147483647 := h4
    omega
  · have h5 : near d N I px py = gp N px ((j : Int) - 1) * gp N px ((j : Int) - 1) + col d N I ((j : Int) - 1) py := h5
    obtain ⟨⟨y, q1, q2, q3, q4⟩, -⟩ := col_mem (x := (j : Int) - 1) hd hN hpy (hI _ _ (by omega))
    exact ⟨(j : Int) - 1, y, by omega, by omega, q1, q2, q3, by rw [h5, q4]⟩
theorem near_edge {px py : Int} (hN : 1 ≤ N ∧ N ≤ 3) (hd : 1 ≤ d ∧ d ≤ 10) (hpx : 0 ≤ px ∧ px ≤ d * N) (hpy : 0 ≤ py ∧ py ≤ d * N) (hI : ∀ x y, ¬ (0 ≤ x ∧ x < d ∧ 0 ≤ y ∧ y < d) → I x y = 0) : near d N I px py ≤ px * px ∧ near d N I px py ≤ (d * N - px) * (d * N - px) ∧ near d N I px py ≤ py * py ∧ near d N I px py ≤ (d * N - py) * (d * N - py) := by
  have a1 : 0 ≤ px / N := Int.ediv_nonneg hpx.1 (by omega)
  have a2 : px / N ≤ d := Int.ediv_le_of_le_mul (by omega) hpx.2
  have b1 : 0 ≤ py / N := Int.ediv_nonneg hpy.1 (by omega)
  have b2 : py / N ≤ d := Int.ediv_le_of_le_mul (by omega) hpy.2
  have c1 := near_le (d := d) (N := N) (I := I) (x := -1) (y := py / N) (px := px) (py := py) ⟨by omega, by omega⟩ ⟨by omega, b2⟩ (hI _ _ (by omega))
  have c2 := near_le (d := d) (N := N) (I := I) (x := d) (y := py / N) (px := px) (py := py) ⟨by omega, by omega⟩ ⟨by omega, b2⟩ (hI _ _ (by omega))
  have c3 := near_le (d := d) (N := N) (I := I) (x := px / N) (y := -1) (px := px) (py := py) ⟨by omega, a2⟩ ⟨by omega, by omega⟩ (hI _ _ (by omega))
  have c4 := near_le (d := d) (N := N) (I := I) (x := px / N) (y := d) (px := px) (py := py) ⟨by omega, a2⟩ ⟨by omega, by omega⟩ (hI _ _ (by omega))
  rw [gp_at hN.1, gp_lo hN.1 hpx.1] at c1
  rw [gp_at hN.1, gp_hi hN.1 hpx.2] at c2
  rw [gp_at hN.1, gp_lo hN.1 hpy.1] at c3
  rw [gp_at hN.1, gp_hi hN.1 hpy.2] at c4
  omega
theorem near_in {px py : Int} (hN : 1 ≤ N ∧ N ≤ 3) (hd : 1 ≤ d ∧ d ≤ 10) (hpx : 0 ≤ px ∧ px ≤ d * N) (hpy : 0 ≤ py ∧ py ≤ d * N) (hI : ∀ x y, ¬ (0 ≤ x ∧ x < d ∧ 0 ≤ y ∧ y < d) → I x y = 0) : 0 ≤ near d N I px py ∧ near d N I px py ≤ 225 := by
  have h0 := dN_in hd hN
  obtain ⟨e1, e2, -, -⟩ := near_edge hN hd hpx hpy hI
  obtain ⟨x, y, -, -, -, -, -, h⟩ := near_mem hd hN hpx hpy hI
  have h1 := sq_0 (gp N px x)
  have h2 := sq_0 (gp N py y)
  refine ⟨by omega, ?_⟩
  by_cases hh : px ≤ 15
  · have := sq_le hpx.1 hh
    omega
  · have := sq_le (a := d * N - px) (b := 15) (by omega) (by omega)
    omega
/-- what the reference reckons is the same number -/
theorem near_sq {px py e v : Int} (hN : 1 ≤ N ∧ N ≤ 3) (hd : 1 ≤ d ∧ d ≤ 10) (hpx : 0 ≤ px ∧ px ≤ d * N) (hpy : 0 ≤ py ∧ py ≤ d * N) (hI : ∀ x y, ¬ (0 ≤ x ∧ x < d ∧ 0 ≤ y ∧ y < d) → I x y = 0) (he : e = px ∨ e = d * N - px ∨ e = py ∨ e = d * N - py) (h1 : e ≤ px) (h2 : e ≤ d * N - px) (h3 : e ≤ py) (h4 : e ≤ d * N - py) (hv : v ≤ e * e) (hs : ∀ x y, 0 ≤ x → x < d → 0 ≤ y → y < d → I x y = 0 → v ≤ gp N px x * gp N px x + gp N py y * gp N py y) (hm : v = e * e ∨ ∃ x y, 0 ≤ x ∧ x < d ∧ 0 ≤ y ∧ y < d ∧ I x y = 0 ∧ v = gp N px x * gp N px x + gp N py y * gp N py y) : v = near d N I px py := by
  have he0 : 0 ≤ e := by omega
  have hle : near d N I px py ≤ v := by
    rcases hm with rfl | ⟨x, y, a, b, c, f, g, rfl⟩
    · obtain ⟨q1, q2, q3, q4⟩ := near_edge hN hd hpx hpy hI
      rcases he with rfl | rfl | rfl | rfl <;> assumption
    · exact near_le ⟨by omega, by omega⟩ ⟨by omega, by omega⟩ g
  have hge : v ≤ near d N I px py := by
    obtain ⟨x, y, a, b, c, f, g, h⟩ := near_mem hd hN hpx hpy hI
    rw [h]
    by_cases hin : 0 ≤ x ∧ x < d ∧ 0 ≤ y ∧ y < d
    · exact hs x y hin.1 hin.2.1 hin.2.2.1 hin.2.2.2 g
    · have s1 := sq_0 (gp N px x)
      have s2 := sq_0 (gp N py y)
      have o1 := gp_out (c := x) hN.1 hpx
      have o2 := gp_out (c := y) hN.1 hpy
      have hc : x = -1 ∨ x = d ∨ y = -1 ∨ y = d := by omega
      rcases hc with hc | hc | hc | hc
      · have := sq_le he0 (Int.le_trans h1 (o1.1 hc)); omega
      · have := sq_le he0 (Int.le_trans h2 (o1.2 hc)); omega
      · have := sq_le he0 (Int.le_trans h3 (o2.1 hc)); omega
      · have := sq_le he0 (Int.le_trans h4 (o2.2 hc)); omega
  omega
end NR
theorem inn_out (d : Int) (f : Nat → Int) (k : Int) : ∀ x y, ¬ (0 ≤ x ∧ x < d ∧ 0 ≤ y ∧ y < d) → inn d f k x y = 0 := fun x y h => if_neg h
theorem innM_out (d : Int) (f : Nat → Int) (k : Int) : ∀ x y, ¬ (0 ≤ x ∧ x < d ∧ 0 ≤ y ∧ y < d) → innM d f k x y = 0 := fun x y h => if_neg h
theorem inn_M {n d : Int} {f8 f28 : Nat → Int} (h : CellG n d f8 f28) {k : Int} (h0 : 0 ≤ k) (h1 : k < n) : innM d f28 k = inn d f8 k := by
  funext x y
  unfold inn innM
  by_cases hh : 0 ≤ x ∧ x < d ∧ 0 ≤ y ∧ y < d
  · rw [if_pos hh, if_pos hh]
    exact (h k x y h0 h1 hh.1 hh.2.1 hh.2.2.1 hh.2.2.2).2
  · rw [if_neg hh, if_neg hh]
theorem rmf_M {n d N : Int} {f8 f28 : Nat → Int} (h : CellG n d f8 f28) : rmf n d N (innM d f28) = rmf n d N (inn d f8) := by
  funext x0 y0 x1 y1
  refine mnT_congr (fun j hj => ?_)
  rw [inn_M h (by omega) (by omega)]
/-- places and cells, numbered -/
theorem pq_lt {a b x r : Int} (hx : 0 ≤ x ∧ x < r) (h : a < b) : a * r + x < b * r := by
  have : (a + 1) * r ≤ b * r := Int.mul_le_mul_of_nonneg_right (by omega) (by omega)
  rw [Int.add_mul] at this
  omega
theorem pq_0 {a x r : Int} (hx : 0 ≤ x ∧ x < r) (h : 0 ≤ a) : 0 ≤ a * r + x := by
  have : 0 ≤ a * r := Int.mul_nonneg h (by omega)
  omega
theorem pq_inj {a b x y r : Int} (hx : 0 ≤ x ∧ x < r) (hy : 0 ≤ y ∧ y < r) (h : a * r + x = b * r + y) : a = b ∧ x = y := by
  have h1 : ¬ a < b := fun q => by have := pq_lt hx q; omega
  have h2 : ¬ b < a := fun q => by have := pq_lt hy q; omega
  have h3 : a = b := by omega
  subst h3
  exact ⟨rfl, by omega⟩
theorem ix_in {n k y x r : Int} (hk : 0 ≤ k ∧ k < n) (hy : 0 ≤ y ∧ y < r) (hx : 0 ≤ x ∧ x < r) : 0 ≤ (k * r + y) * r + x ∧ (k * r + y) * r + x < (n * r) * r :=
  ⟨pq_0 hx (pq_0 hy hk.1), pq_lt hx (pq_lt hy hk.2)⟩
theorem ix_inj {k y x k' y' x' r : Int} (hk : 0 ≤ k) (hk' : 0 ≤ k') (hy : 0 ≤ y ∧ y < r) (hx : 0 ≤ x ∧ x < r) (hy' : 0 ≤ y' ∧ y' < r) (hx' : 0 ≤ x' ∧ x' < r) (h : ((k * r + y) * r + x).toNat = ((k' * r + y') * r + x').toNat) : k = k' ∧ y = y' ∧ x = x' := by
  have h1 := pq_0 hx (pq_0 hy hk)
  have h2 := pq_0 hx' (pq_0 hy' hk')
  obtain ⟨e1, e2⟩ := pq_inj hx hx' (show (k * r + y) * r + x = (k' * r + y') * r + x' by omega)
  obtain ⟨e3, e4⟩ := pq_inj hy hy' e1
  exact ⟨e3, e4, e2⟩
theorem nr_in {n r : Int} (hn : 1 ≤ n ∧ n ≤ 4) (hr : 1 ≤ r ∧ r ≤ 31) : (n * r) * r ≤ 4 * 31 * 31 := by
  have h1 : n * r ≤ 4 * 31 := Int.mul_le_mul hn.2 hr.2 (by omega) (by decide)
  have h0 : 0 ≤ n * r := Int.mul_nonneg (by omega) (by omega)
  exact Int.mul_le_mul h1 hr.2 (by omega) (by decide)
theorem ic_eq (d k x y : Int) : ic d k x y = (k * (d + 2) + (y + 1)) * (d + 2) + (x + 1) := by
  unfold ic
  rw [Int.add_assoc (k * (d + 2)) y 1]
  omega
theorem ic_in {n d k x y : Int} (hk : 0 ≤ k ∧ k < n) (hx : -1 ≤ x ∧ x ≤ d) (hy : -1 ≤ y ∧ y ≤ d) : 0 ≤ ic d k x y ∧ ic d k x y < (n * (d + 2)) * (d + 2) := by
  rw [ic_eq]
  exact ix_in hk (y := y + 1) ⟨by omega, by omega⟩ (x := x + 1) ⟨by omega, by omega⟩
theorem ic_inj {d k x y k' x' y' : Int} (hk : 0 ≤ k) (hk' : 0 ≤ k') (hx : -1 ≤ x ∧ x ≤ d) (hy : -1 ≤ y ∧ y ≤ d) (hx' : -1 ≤ x' ∧ x' ≤ d) (hy' : -1 ≤ y' ∧ y' ≤ d) (h : (ic d k x y).toNat = (ic d k' x' y').toNat) : k = k' ∧ x = x' ∧ y = y' := by
  rw [ic_eq, ic_eq] at h
  obtain ⟨e1, e2, e3⟩ := ix_inj (y := y + 1) (x := x + 1) (y' := y' + 1) (x' := x' + 1) hk hk' ⟨by omega, by omega⟩ ⟨by omega, by omega⟩ ⟨by omega, by omega⟩ ⟨by omega, by omega⟩ h
  exact ⟨e1, by omega, by omega⟩
theorem inn_at {n d k x y : Int} {f : Nat → Int} (hr : RimC n d f) (hk : 0 ≤ k ∧ k < n) (hx : -1 ≤ x ∧ x ≤ d) (hy : -1 ≤ y ∧ y ≤ d) : f (ic d k x y).toNat = inn d f k x y := by
  unfold inn
  by_cases hh : 0 ≤ x ∧ x < d ∧ 0 ≤ y ∧ y < d
  · rw [if_pos hh]
  · rw [if_neg hh]
    exact hr k x y hk.1 hk.2 hx.1 hx.2 hy.1 hy.2 hh
