/-- a share in least terms -/
def LT (u d x : Int) : Int := (if x = 0 then u else d) / (Nat.gcd u.toNat d.toNat : Int)
theorem mulB {a b A B : Int} (h : 0 ≤ a ∧ a ≤ A) (h2 : 0 ≤ b ∧ b ≤ B) : 0 ≤ a * b ∧ a * b ≤ A * B :=
  ⟨Int.mul_nonneg h.1 h2.1, Int.mul_le_mul h.2 h2.2 h2.1 (by omega)⟩
def WFo (s nd : Int → Int) : Nat → Int × Int
  | 0 => (0, 0)
  | k + 1 => if (WFo s nd k).2 = 0 ∨ s k * (WFo s nd k).2 < (WFo s nd k).1 * nd k then (s k, nd k) else WFo s nd k
theorem WFo_1 (s nd : Int → Int) : WFo s nd 1 = (s 0, nd 0) := if_pos (Or.inl rfl)
noncomputable def WSm (Y : Sg) (n f : Int) : Int := SM (fun k => gD Y (Y.1 4) (Y.1 3) (Y.2 4) f k) n.toNat
def WNd (Y : Sg) (n f : Int) : Int := Y.2 2 f * n
theorem WFo_rng {s nd : Int → Int} {m : Int} (hs : ∀ f : Int, 0 ≤ f → f < m → 0 ≤ s f ∧ s f ≤ 140) (hn : ∀ f : Int, 0 ≤ f → f < m → 1 ≤ nd f ∧ nd f ≤ 90) : ∀ k : Nat, (k : Int) + 1 ≤ m → (0 ≤ (WFo s nd (k + 1)).1 ∧ (WFo s nd (k + 1)).1 ≤ 140) ∧ (1 ≤ (WFo s nd (k + 1)).2 ∧ (WFo s nd (k + 1)).2 ≤ 90)
  | 0, h => by rw [WFo_1]; exact ⟨hs 0 (by omega) (by omega), hn 0 (by omega) (by omega)⟩
  | k + 1, h => by
    have ih := WFo_rng hs hn k (by omega)
    rw [WFo]
    split
    · exact ⟨hs _ (by omega) (by omega), hn _ (by omega) (by omega)⟩
    · exact ih
def WO (Y : Sg) (n x : Int) (L : Int64) : Prop := (((n < 1 ∨ 10 < n) ∨ (x < 0 ∨ 1 < x) ∨ Y.1 0 = 0) ∧ L = -9223372036854775808) ∨ (¬ ((n < 1 ∨ 10 < n) ∨ (x < 0 ∨ 1 < x) ∨ Y.1 0 = 0) ∧ L = jI (LT (WFo (WSm Y n) (WNd Y n) (Y.1 0).toNat).1 (WFo (WSm Y n) (WNd Y n) (Y.1 0).toNat).2 x))
/-- the rain of a row of two sorts -/
def RRb (a b row d : Int) : Int := if zand (zshr row d) 1 = 0 then a else b
theorem zshl1 {n : Int} (h0 : 0 ≤ n) (h1 : n ≤ 6) : zshl 1 n = ((2 ^ n.toNat : Nat) : Int) := by
  rcases (show n = 0 ∨ n = 1 ∨ n = 2 ∨ n = 3 ∨ n = 4 ∨ n = 5 ∨ n = 6 by omega) with rfl | rfl | rfl | rfl | rfl | rfl | rfl <;> decide
theorem pow6 {n : Int} (h0 : 0 ≤ n) (h1 : n ≤ 6) : 1 ≤ 2 ^ n.toNat ∧ 2 ^ n.toNat ≤ 64 :=
  ⟨Nat.one_le_two_pow, Nat.pow_le_pow_right (n := 2) (by decide) (show n.toNat ≤ 6 by omega)⟩
noncomputable def RKc (Y : Sg) (f n a b : Int) : Int := CT (fun row => ¬ NV Y (Y.1 4) (Y.1 3) (RRb a b row) n f) (2 ^ n.toNat)
def RK (Y : Sg) (f n a b x : Int) (L : Int64) : Prop := (((f < 0 ∨ Y.1 0 ≤ f) ∨ (n < 0 ∨ 6 < n) ∨ (x < 0 ∨ 1 < x) ∨ (a < 0 ∨ 99 < a) ∨ (b < 0 ∨ 99 < b)) ∧ L = -9223372036854775808) ∨ (¬ ((f < 0 ∨ Y.1 0 ≤ f) ∨ (n < 0 ∨ 6 < n) ∨ (x < 0 ∨ 1 < x) ∨ (a < 0 ∨ 99 < a) ∨ (b < 0 ∨ 99 < b)) ∧ L = jI (LT (RKc Y f n a b) ((2 ^ n.toNat : Nat) : Int) x))
