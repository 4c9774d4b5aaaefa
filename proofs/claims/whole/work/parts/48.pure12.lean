def DGm (C : Int → Int) (w e l : Int) : Int := if w < e ∧ 48 + l ≤ C w ∧ C w ≤ 57 then C w - 48 else -9
theorem GW_tap {p t c : Int} (h : 4 ≤ p) (h2 : p < 34) (ht : (p - 4) % 5 = t) : GW p c ↔ TG t c := by
  constructor
  · intro h5
    rcases h5 with h5 | h5 | h5 | h5
    · omega
    · omega
    · omega
    · rw [← ht]; exact h5.2.2
  · intro h5
    exact Or.inr (Or.inr (Or.inr ⟨h, h2, by rw [ht]; exact h5⟩))
