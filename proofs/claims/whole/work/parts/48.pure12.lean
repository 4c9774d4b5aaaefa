def DGm (C : Int → Int) (w e l : Int) : Int := if w < e ∧ 48 + l ≤ C w ∧ C w ≤ 57 then C w - 48 else -9
theorem GW_tap {p t c : Int} (h : 4 ≤ p) (h2 : p < 34) (ht : (p - 4) % 5 = t) : GW p c ↔ TG t c := by
  constructor
  · intro h5
    rcases h5 with h5 | h5 | h5 | h5
    · omega
    · omega
    · omega
    · rw [← ht]; exact h5.2.2
  · intro h5
    exact Or.inr (Or.inr (Or.inr ⟨h, h2, by rw [ht]; exact h5⟩))
theorem FF_fail {c : Int → Int} {n p : Int} (h0 : 0 ≤ p) (hp : p ≤ n) (hg : ∀ j : Int, 0 ≤ j → j < p → GW j (c j)) (hnz : ¬ (2 < p ∧ c 1 = 48 ∧ c 2 = 48)) (hbad : ¬ (p < n ∧ GW p (c p))) (hend : p = n → n ≤ 4 ∨ (n - 4) % 5 ≠ 0) : FF c n p := by
  by_cases e : p < n
  · exact Or.inl ⟨p, h0, e, hg, fun h => hbad ⟨e, h⟩, hnz, rfl⟩
  · have e2 : p = n := by omega
    refine Or.inr (Or.inr (Or.inl ⟨?_, ?_, hend e2, e2⟩))
    · rw [← e2]; exact hg
    · rw [← e2]; exact hnz
