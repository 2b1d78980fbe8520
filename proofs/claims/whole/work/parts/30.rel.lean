/-! PURE: the class's numbers and the reference's numbers, side by side. -/
theorem ex_wA {nn : Nat → Nat} {σ : kM} {a b c : Int} {A B : Prop} (ha : iR a) (hb : iR b) (hc : iR c) (h1 : b ≤ a → a ≤ c → B) (h0 : ¬ (b ≤ a ∧ a ≤ c) → A) : ∃ P : Int → Prop, wp_P_isWithin nn σ a b c P ∧ ∀ r : Int, P r → iR r ∧ ((r = 0 → A) ∧ (¬ r = 0 → B)) := by
  refine ⟨fun r => (r = 0 ∧ A) ∨ (r = 1 ∧ B), ⟨ha, hb, fun h => Or.inl ⟨rfl, h0 (by omega)⟩, fun h => ⟨ha, hc, fun h2 => Or.inl ⟨rfl, h0 (by omega)⟩, fun h2 => Or.inr ⟨rfl, h1 (by omega) (by omega)⟩⟩⟩, ?_⟩
  rintro r (⟨rfl, h⟩ | ⟨rfl, h⟩)
  · exact ⟨⟨by decide, by decide⟩, fun _ => h, fun h => absurd rfl h⟩
  · exact ⟨⟨by decide, by decide⟩, fun h => absurd h (by decide), fun _ => h⟩
theorem ex_wB {nn : Nat → Nat} {σ : kM} {a b c : Int} {A B : Prop} (ha : iR a) (hb : iR b) (hc : iR c) (h1 : b ≤ a → a ≤ c → B) (h0 : ¬ (b ≤ a ∧ a ≤ c) → A) : ∃ P : Int → Prop, wp_P_isWithin nn σ a b c P ∧ ∀ r : Int, P r → iR r ∧ ((¬ r = 0 → B) ∧ (r = 0 → A)) := by
  obtain ⟨P, h, k⟩ := ex_wA (nn := nn) (σ := σ) ha hb hc h1 h0
  exact ⟨P, h, fun r hr => ⟨(k r hr).1, (k r hr).2.2, (k r hr).2.1⟩⟩
theorem ex_mA {nn : Nat → Nat} {σ : kM} {a b c : Int} {A B : Prop} (ha : iR a) (hb : iR b) (hc : iR c) (h1 : b ≤ a → a ≤ c → B) (h0 : ¬ (b ≤ a ∧ a ≤ c) → A) : ∃ P : Int → Prop, wp_M_isIn nn σ a b c P ∧ ∀ r : Int, P r → iR r ∧ ((r = 0 → A) ∧ (¬ r = 0 → B)) := ex_wA (nn := nn) (σ := σ) ha hb hc h1 h0
theorem ex_mB {nn : Nat → Nat} {σ : kM} {a b c : Int} {A B : Prop} (ha : iR a) (hb : iR b) (hc : iR c) (h1 : b ≤ a → a ≤ c → B) (h0 : ¬ (b ≤ a ∧ a ≤ c) → A) : ∃ P : Int → Prop, wp_M_isIn nn σ a b c P ∧ ∀ r : Int, P r → iR r ∧ ((¬ r = 0 → B) ∧ (r = 0 → A)) := ex_wB (nn := nn) (σ := σ) ha hb hc h1 h0
theorem xI_in (xs : Nat → Int32) (z : Int) : iR (xI xs z) := iR_toInt _
theorem up_same {α : Type} (f : Nat → α) (k : Nat) (v : α) : va_up f k v k = v := by simp [va_up]
theorem up_ne {α : Type} (f : Nat → α) {k j : Nat} (v : α) (h : j ≠ k) : va_up f k v j = f j := by simp [va_up, h]
theorem iR_s {z : Int} (h0 : -1000000000 ≤ z) (h1 : z ≤ 2000000000) : iR z := ⟨by omega, by omega⟩
theorem lR_s {z : Int} (h : iR z) : lR z := ⟨by have := h.1; omega, by have := h.2; omega⟩
/-- the answers compared: thrown alike, or both answered -/
theorem cmpT {K : kM → Prop} {r1 : Int} {s2 : kM} {B : Prop} (h : s2 27 0 = r1) (h1 : r1 = 1 ∨ r1 = 2) (k : K s2) : iR (s2 27 0) ∧ iR r1 ∧ (((s2 27 0) = r1 → iR r1 ∧ ((¬ r1 = 0 → K s2) ∧ (r1 = 0 → B))) ∧ (¬ (s2 27 0) = r1 → False)) := by
  have hr : iR r1 := ⟨by omega, by omega⟩
  exact ⟨h ▸ hr, hr, fun _ => ⟨hr, fun _ => k, fun h0 => by omega⟩, fun hn => hn h⟩
theorem cmpL {K : kM → Prop} {a b : Int} {s2 : kM} (hr : iR a) (h : b = a) (k : K s2) : (lR b ∧ lR a) ∧ (((if a < b then 1 else if b = a then 0 else -1) = 0 → K s2) ∧ (¬ (if a < b then 1 else if b = a then 0 else -1) = 0 → False)) := by
  subst h
  exact ⟨⟨lR_s hr, lR_s hr⟩, fun _ => k, fun h => h (by simp)⟩
theorem cmpN {K : kM → Prop} {r2 : Int} {s2 : kM} (h : s2 27 0 = 0) (hr : iR r2) (h1 : s2 26 0 = r2) (k : K s2) : iR (s2 27 0) ∧ iR 0 ∧ (((s2 27 0) = 0 → iR 0 ∧ ((¬ (0 : Int) = 0 → K s2) ∧ ((0 : Int) = 0 → iR r2 ∧ (lR (s2 26 0) ∧ lR r2) ∧ (((if r2 < (s2 26 0) then 1 else if (s2 26 0) = r2 then 0 else -1) = 0 → K s2) ∧ (¬ (if r2 < (s2 26 0) then 1 else if (s2 26 0) = r2 then 0 else -1) = 0 → False))))) ∧ (¬ (s2 27 0) = 0 → False)) :=
  ⟨h ▸ iR_0, iR_0, fun _ => ⟨iR_0, fun _ => k, fun _ => ⟨hr, cmpL hr h1 k⟩⟩, fun hn => hn h⟩
theorem cmpZ {K : kM → Prop} {r2 : Int} {s2 : kM} {J : kM → Int → Prop} (hJ : ∀ v : Int, iR v → s2 26 0 = v → K s2 → J s2 v) (h : s2 27 0 = 0) (hr : r2 = 0 ∨ r2 = 1) (h1 : s2 26 0 = r2) (k : K s2) : iR (s2 27 0) ∧ iR 0 ∧ (((s2 27 0) = 0 → iR 0 ∧ ((¬ (0 : Int) = 0 → K s2) ∧ ((0 : Int) = 0 → iR r2 ∧ ((r2 = 0 → J s2 0) ∧ (¬ r2 = 0 → J s2 1))))) ∧ (¬ (s2 27 0) = 0 → False)) :=
  ⟨h ▸ iR_0, iR_0, fun _ => ⟨iR_0, fun _ => k, fun _ => ⟨⟨by omega, by omega⟩, fun e => hJ 0 iR_0 (by omega) k, fun e => hJ 1 ⟨by omega, by omega⟩ (by omega) k⟩⟩, fun hn => hn h⟩
/-! the numbers -/
def gp (N place cell : Int) : Int := if place < cell * N then cell * N - place else if cell * N + N < place then place - (cell * N + N) else 0
/-- the place of a cell in the class's row, a rim of one cell about each slice with it -/
def ic (d k x y : Int) : Int := (k * (d + 2) + y + 1) * (d + 2) + x + 1
def inn (d : Int) (f : Nat → Int) (k x y : Int) : Int := if 0 ≤ x ∧ x < d ∧ 0 ≤ y ∧ y < d then f (ic d k x y).toNat else 0
def innM (d : Int) (f : Nat → Int) (k x y : Int) : Int := if 0 ≤ x ∧ x < d ∧ 0 ≤ y ∧ y < d then f (100 * k + 10 * y + x).toNat else 0
def mnT (b : Int) (f : Nat → Int) : Nat → Int
  | 0 => b
  | k + 1 => if f k < mnT b f k then f k else mnT b f k
def colF (d N : Int) (I : Int → Int → Int) (x py : Int) : Nat → Int := mnT 2147483647 (fun j => if I x ((j : Int) - 1) = 0 then gp N py ((j : Int) - 1) * gp N py ((j : Int) - 1) else 2147483647)
def col (d N : Int) (I : Int → Int → Int) (x py : Int) : Int := colF d N I x py (d + 2).toNat
def nearF (d N : Int) (I : Int → Int → Int) (px py : Int) : Nat → Int := mnT 2147483647 (fun j => gp N px ((j : Int) - 1) * gp N px ((j : Int) - 1) + col d N I ((j : Int) - 1) py)
def near (d N : Int) (I : Int → Int → Int) (px py : Int) : Int := nearF d N I px py (d + 2).toNat
def rmF (d N : Int) (J : Int → Int → Int → Int) (x0 y0 x1 y1 : Int) : Nat → Int := mnT 1000000 (fun k => near d N (J (k : Int)) (x0 * N + (x1 - x0) * (k : Int)) (y0 * N + (y1 - y0) * (k : Int)))
def rmf (n d N : Int) (J : Int → Int → Int → Int) (x0 y0 x1 y1 : Int) : Int := rmF d N J x0 y0 x1 y1 n.toNat
def lx (x0 y0 x1 y1 a0 a1 a2 a3 : Int) : Prop := x0 < a0 ∨ (x0 = a0 ∧ (y0 < a1 ∨ (y0 = a1 ∧ (x1 < a2 ∨ (x1 = a2 ∧ y1 < a3)))))
def inD (d x0 y0 x1 y1 : Int) : Prop := 0 ≤ x0 ∧ x0 ≤ d ∧ 0 ≤ y0 ∧ y0 ≤ d ∧ 0 ≤ x1 ∧ x1 ≤ d ∧ 0 ≤ y1 ∧ y1 ≤ d
/-- the best of the axes ahead of c, and the first of those -/
def PB (d : Int) (F : Int → Int → Int → Int → Int) (R a0 a1 a2 a3 c0 c1 c2 c3 : Int) : Prop := inD d a0 a1 a2 a3 ∧ F a0 a1 a2 a3 = R ∧ ∀ x0 y0 x1 y1 : Int, inD d x0 y0 x1 y1 → (lx x0 y0 x1 y1 c0 c1 c2 c3 → F x0 y0 x1 y1 ≤ R) ∧ (lx x0 y0 x1 y1 a0 a1 a2 a3 → F x0 y0 x1 y1 < R)
def BestP (d : Int) (F : Int → Int → Int → Int → Int) (R a0 a1 a2 a3 : Int) : Prop := inD d a0 a1 a2 a3 ∧ F a0 a1 a2 a3 = R ∧ ∀ x0 y0 x1 y1 : Int, inD d x0 y0 x1 y1 → F x0 y0 x1 y1 ≤ R ∧ (lx x0 y0 x1 y1 a0 a1 a2 a3 → F x0 y0 x1 y1 < R)
/-! the relation, group by group -/
def Par (n d N : Int) (nn : Nat → Nat) : Prop := (1 ≤ n ∧ n ≤ 4 ∧ 1 ≤ d ∧ d ≤ 10 ∧ 1 ≤ N ∧ N ≤ 3 ∧ n ≤ N + 1) ∧ (nn 8 : Int) = (n * (d + 2)) * (d + 2) ∧ (nn 9 : Int) = (n * (d * N + 1)) * (d * N + 1) ∧ (nn 10 : Int) = n ∧ (nn 11 : Int) = d + 2
def GeoG (n d N a0 a1 a2 a3 a4 b1 b2 b3 : Int) : Prop := a0 = n ∧ a1 = d ∧ a2 = N ∧ a3 = d * N + 1 ∧ a4 = d + 2 ∧ b1 = n ∧ b2 = d ∧ b3 = N
def CellG (n d : Int) (f8 f28 : Nat → Int) : Prop := ∀ k x y : Int, 0 ≤ k → k < n → 0 ≤ x → x < d → 0 ≤ y → y < d → (f8 (ic d k x y).toNat = 0 ∨ f8 (ic d k x y).toNat = 1) ∧ f28 (100 * k + 10 * y + x).toNat = f8 (ic d k x y).toNat
def RimC (n d : Int) (f8 : Nat → Int) : Prop := ∀ k x y : Int, 0 ≤ k → k < n → -1 ≤ x → x ≤ d → -1 ≤ y → y ≤ d → ¬ (0 ≤ x ∧ x < d ∧ 0 ≤ y ∧ y < d) → f8 (ic d k x y).toNat = 0
def CacheG (n d N : Int) (f8 f9 f10 : Nat → Int) : Prop := ∀ k : Int, 0 ≤ k → k < n → (f10 k.toNat = 0 ∨ f10 k.toNat = 1) ∧ (f10 k.toNat = 0 → ∀ px py : Int, 0 ≤ px → px ≤ d * N → 0 ≤ py → py ≤ d * N → f9 ((k * (d * N + 1) + py) * (d * N + 1) + px).toNat = near d N (inn d f8 k) px py)
def AxC (n d N : Int) (f8 : Nat → Int) (side parts room stale : Int) (f12 : Nat → Int) : Prop := ((side = d ∧ parts = N ∧ RimC n d f8) ∧ (stale = 0 ∨ stale = 1)) ∧ (stale = 0 → BestP d (rmf n d N (inn d f8)) room (f12 0) (f12 1) (f12 2) (f12 3))
def SqM (n d N : Int) (f28 f29 : Nat → Int) : Prop := ∀ k px py : Int, 0 ≤ k → k < n → 0 ≤ px → px ≤ d * N → 0 ≤ py → py ≤ d * N → f29 (961 * k + 31 * py + px).toNat = near d N (innM d f28 k) px py
def KnM (n d N : Int) (f28 : Nat → Int) (known room : Int) (f29 f30 : Nat → Int) : Prop := (known = 0 ∨ known = 1) ∧ (known = 1 → SqM n d N f28 f29 ∧ BestP d (rmf n d N (innM d f28)) room (f30 0) (f30 1) (f30 2) (f30 3))
def RibG (p r t u p' r' t' u' : Int) : Prop := p' = p ∧ (p = 0 ∨ p = 1) ∧ (p = 1 → r' = r ∧ t' = t ∧ u' = u ∧ 0 ≤ r ∧ r ≤ 1500 ∧ 1 ≤ t ∧ t ≤ 1000 ∧ 0 ≤ u ∧ u * t ≤ r)
def FauG (c : Int) (a b k : Nat → Int) (c' : Int) (a' b' k' : Nat → Int) : Prop := c' = c ∧ 0 ≤ c ∧ c ≤ 16 ∧ a' = a ∧ b' = b ∧ k' = k ∧ ∀ j, 0 ≤ a j ∧ a j ≤ 359 ∧ 0 ≤ b j ∧ b j ≤ 1000 ∧ 0 ≤ k j ∧ k j ≤ 3
def LeaG (c : Int) (w v b : Nat → Int) (c' : Int) (w' v' b' : Nat → Int) : Prop := c' = c ∧ 0 ≤ c ∧ c ≤ 6 ∧ w' = w ∧ v' = v ∧ b' = b ∧ (∀ j, 0 ≤ w j ∧ w j ≤ 500 ∧ 0 ≤ v j ∧ v j ≤ 1000000 ∧ 0 ≤ b j ∧ b j ≤ 15) ∧ ∀ j : Nat, (j : Int) < c → 1 ≤ w j
def CliG (c steps count worth waste : Int) (f21 f22 : Nat → Int) (c' steps' many best0 waste0 : Int) (f40 f41 : Nat → Int) : Prop := c' = c ∧ (c = 0 ∨ c = 1) ∧ (c = 1 → steps' = steps ∧ many = count ∧ best0 = worth ∧ waste0 = waste ∧ iR steps ∧ 0 ≤ count ∧ count ≤ 2000 ∧ iR worth ∧ iR waste ∧ ∀ k : Nat, (k : Int) < count → 0 ≤ f22 k ∧ f22 k < 2000 ∧ f41 k = f22 k ∧ f40 k = f21 (f22 k).toNat ∧ iR (f40 k))
def KniG (c : Int) (r a : Nat → Int) (c' : Int) (r' a' : Nat → Int) : Prop := c' = c ∧ 0 ≤ c ∧ c ≤ 8 ∧ r' = r ∧ a' = a ∧ ∀ j, 0 ≤ r j ∧ r j ≤ 1000 ∧ -100 ≤ a j ∧ a j ≤ 100
def Rel (n d N : Int) (σ : kM) : Prop :=
  GeoG n d N (σ 1 0) (σ 1 1) (σ 1 2) (σ 1 3) (σ 1 4) (σ 27 1) (σ 27 2) (σ 27 3) ∧ CellG n d (σ 8) (σ 28) ∧ CacheG n d N (σ 8) (σ 9) (σ 10) ∧ AxC n d N (σ 8) (σ 2 1) (σ 2 2) (σ 2 4) (σ 2 5) (σ 12) ∧ KnM n d N (σ 28) (σ 27 6) (σ 27 7) (σ 29) (σ 30) ∧ RibG (σ 3 0) (σ 3 1) (σ 3 2) (σ 3 3) (σ 27 9) (σ 27 12) (σ 27 10) (σ 27 11) ∧ FauG (σ 4 3) (σ 13) (σ 14) (σ 15) (σ 27 16) (σ 31) (σ 32) (σ 33) ∧ LeaG (σ 5 3) (σ 16) (σ 17) (σ 18) (σ 27 20) (σ 34) (σ 35) (σ 36) ∧ CliG (σ 6 5) (σ 6 6) (σ 6 7) (σ 6 8) (σ 6 9) (σ 21) (σ 22) (σ 27 21) (σ 27 22) (σ 27 28) (σ 38 0) (σ 39 0) (σ 40) (σ 41) ∧ KniG (σ 7 2) (σ 24) (σ 25) (σ 27 31) (σ 42) (σ 43)
theorem Rel.thr {n d N : Int} {σ : kM} {v : Int} (h : Rel n d N σ) : Rel n d N (va_up σ 27 (va_up (σ 27) 0 v)) := h
theorem Rel.out {n d N : Int} {σ : kM} {f : Nat → Int} (h : Rel n d N σ) : Rel n d N (va_up σ 26 f) := h
