/-- days that have passed in the reference -/
def MRn (Y : Sg) (q w : Int) (rn : Int → Int) (t x f : Int) (r : Nat → Int → Int) (n : Nat) : Prop :=
  (∀ k : Nat, k ≤ n → r 12 k = lvT Y q w rn t x f k ∧ 0 ≤ lvT Y q w rn t x f k ∧ lvT Y q w rn t x f k ≤ Y.1 1) ∧ (∀ k : Nat, k < n → r 15 k = max 0 (lvT Y q w rn t x f k + rn k - Y.1 1)) ∧ (∀ k : Nat, k < n → ∀ g : Int, 0 ≤ g → g < Y.1 0 → r 14 (6 * (k : Int) + g) = dGt Y q (lvT Y q w rn t x f k) (rn k) g ∧ 0 ≤ dGt Y q (lvT Y q w rn t x f k) (rn k) g ∧ dGt Y q (lvT Y q w rn t x f k) (rn k) g ≤ 14)
theorem MRn_Ran {Y : Sg} {q w : Int} {rn : Int → Int} {t x f : Int} {r : Nat → Int → Int} {n : Nat} (h : MRn Y q w rn t x f r n) (ht : t < 0) : Ran Y q w rn r n 12 15 14 := by
  have e : ∀ k : Nat, lvT Y q w rn t x f k = lev Y q w rn k := fun k => lvT_lev (Or.inl ht)
  refine ⟨fun k hk => ?_, fun k hk => ?_, fun k hk g g0 g1 => ?_⟩
  · rw [← e k]; exact h.1 k hk
  · rw [← e k]; exact h.2.1 k hk
  · rw [← e k, Int.mul_comm]; exact h.2.2 k hk g g0 g1
theorem MRn_s {Y : Sg} {q w : Int} {rn : Int → Int} {t x f : Int} {r r2 : Nat → Int → Int} {n : Nat} {v : Int} (h : MRn Y q w rn t x f r n) (l1 : ∀ j : Int, j ≠ n + 1 → r2 12 j = r 12 j) (l2 : r2 12 ((n : Int) + 1) = v) (hv : v = lvT Y q w rn t x f (n + 1) ∧ 0 ≤ v ∧ v ≤ Y.1 1) (o1 : ∀ j : Int, j ≠ n → r2 15 j = r 15 j) (o2 : r2 15 n = max 0 (lvT Y q w rn t x f n + rn n - Y.1 1)) (g1 : ∀ j : Int, ¬ (6 * (n : Int) ≤ j ∧ j < 6 * (n : Int) + 6) → r2 14 j = r 14 j) (g2 : ∀ g : Int, 0 ≤ g → g < Y.1 0 → r2 14 (6 * (n : Int) + g) = dGt Y q (lvT Y q w rn t x f n) (rn n) g) (gr : ∀ g : Int, 0 ≤ g → g < Y.1 0 → 0 ≤ dGt Y q (lvT Y q w rn t x f n) (rn n) g ∧ dGt Y q (lvT Y q w rn t x f n) (rn n) g ≤ 14) (h6 : Y.1 0 ≤ 6) : MRn Y q w rn t x f r2 (n + 1) := by
  refine ⟨fun k hk => ?_, fun k hk => ?_, fun k hk g g0 g1' => ?_⟩
  · by_cases e : k = n + 1
    · subst e
      rw [← hv.1]
      exact ⟨l2, hv.2⟩
    · rw [l1 k (by omega)]; exact h.1 k (by omega)
  · by_cases e : k = n
    · subst e; exact o2
    · rw [o1 k (by omega)]; exact h.2.1 k (by omega)
  · by_cases e : k = n
    · subst e; exact ⟨g2 g g0 g1', gr g g0 g1'⟩
    · rw [g1 _ (by omega)]; exact h.2.2 k (by omega) g g0 g1'
theorem MRn_0 {Y : Sg} {q w : Int} {rn : Int → Int} {t x f : Int} {r : Nat → Int → Int} (h : r 12 0 = w) (hw : 0 ≤ w ∧ w ≤ Y.1 1) : MRn Y q w rn t x f r 0 := by
  refine ⟨fun k hk => ?_, fun k hk => by omega, fun k hk => by omega⟩
  have e : k = 0 := by omega
  subst e
  exact ⟨h, hw⟩
