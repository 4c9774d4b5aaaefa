/-- sorted and whole, of the first n taps -/
def ORp (Y : Sg) (q : Int) (o : Int → Int) (n : Int) : Prop := (∀ i : Int, 0 ≤ i → i < n → 0 ≤ o i ∧ o i < n) ∧ (∀ i j : Int, 0 ≤ i → i < j → j < n → BF Y q (o i) (o j)) ∧ (∀ g : Int, 0 ≤ g → g < n → ∃ i : Int, 0 ≤ i ∧ i < n ∧ o i = g)
theorem ORp_OR {Y : Sg} {q : Int} {o : Int → Int} (h : ORp Y q o (Y.1 0)) : OR Y q o (Y.1 0).toNat := by
  refine ⟨fun i hi => h.1 i (by omega) (by omega), fun i j hi hj => h.2.1 i j (by omega) (by omega) (by omega), fun f f0 f1 => ?_⟩
  obtain ⟨i, i0, i1, e⟩ := h.2.2 f f0 f1
  exact ⟨i.toNat, by omega, by rw [Int.toNat_of_nonneg i0]; exact e⟩
theorem ORp_ins {Y : Sg} {q : Int} {o o2 : Int → Int} {f p : Int} (h : ORp Y q o f) (hp : 0 ≤ p ∧ p ≤ f) (h1 : ∀ i : Int, 0 ≤ i → i < p → o2 i = o i) (h2 : ∀ i : Int, p ≤ i → i < f → o2 (i + 1) = o i) (h3 : ∀ i : Int, p ≤ i → i < f → BF Y q f (o i)) (h4 : p = 0 ∨ ¬ BF Y q f (o (p - 1))) (h5 : o2 p = f) : ORp Y q o2 (f + 1) := by
  have h2' : ∀ j : Int, p < j → j < f + 1 → o2 j = o (j - 1) := fun j j0 j1 => by
    have e := h2 (j - 1) (by omega) (by omega)
    rwa [show j - 1 + 1 = j by omega] at e
  have hb : ∀ i : Int, 0 ≤ i → i < p → BF Y q (o i) f := fun i i0 i1 => by
    rcases h4 with h4 | h4
    · omega
    · have hr := h.1 (p - 1) (by omega) (by omega)
      have b1 : BF Y q (o (p - 1)) f := by
        rcases BF_tot Y q (a := f) (b := o (p - 1)) (by omega) with b | b
        · exact absurd b h4
        · exact b
      by_cases e : i = p - 1
      · rw [e]; exact b1
      · exact BF_tr (h.2.1 i (p - 1) i0 (by omega) (by omega)) b1
  refine ⟨fun i i0 i1 => ?_, fun i j i0 ij j1 => ?_, fun g g0 g1 => ?_⟩
  · rcases Int.lt_trichotomy i p with c | c | c
    · rw [h1 i i0 c]; have := h.1 i i0 (by omega); omega
    · rw [c, h5]; omega
    · rw [h2' i c i1]; have := h.1 (i - 1) (by omega) (by omega); omega
  · rcases Int.lt_trichotomy j p with c | c | c
    · rw [h1 i i0 (by omega), h1 j (by omega) c]; exact h.2.1 i j i0 ij (by omega)
    · rw [c, h5, h1 i i0 (by omega)]; exact hb i i0 (by omega)
    · rw [h2' j c j1]
      rcases Int.lt_trichotomy i p with d | d | d
      · rw [h1 i i0 d]; exact h.2.1 i (j - 1) i0 (by omega) (by omega)
      · rw [d, h5]; exact h3 (j - 1) (by omega) (by omega)
      · rw [h2' i d (by omega)]; exact h.2.1 (i - 1) (j - 1) (by omega) (by omega) (by omega)
  · by_cases e : g = f
    · exact ⟨p, hp.1, by omega, by rw [h5, e]⟩
    · obtain ⟨i, i0, i1, e2⟩ := h.2.2 g g0 (by omega)
      by_cases c : i < p
      · exact ⟨i, i0, by omega, by rw [h1 i i0 c]; exact e2⟩
      · exact ⟨i + 1, by omega, by omega, by rw [h2 i (by omega) i1]; exact e2⟩
/-- days that have passed: levels, what ran over, what each got, in rows la, oa, ga -/
def Ran (Y : Sg) (q w : Int) (rn : Int → Int) (r : Nat → Int → Int) (n : Nat) (la oa ga : Nat) : Prop :=
  (∀ k : Nat, k ≤ n → r la k = lev Y q w rn k ∧ 0 ≤ lev Y q w rn k ∧ lev Y q w rn k ≤ Y.1 1) ∧ (∀ k : Nat, k < n → r oa k = max 0 (lev Y q w rn k + rn k - Y.1 1)) ∧ (∀ k : Nat, k < n → ∀ f : Int, 0 ≤ f → f < Y.1 0 → r ga ((k : Int) * 6 + f) = dGt Y q (lev Y q w rn k) (rn k) f ∧ 0 ≤ dGt Y q (lev Y q w rn k) (rn k) f ∧ dGt Y q (lev Y q w rn k) (rn k) f ≤ 14)
theorem Ran_0 {Y : Sg} {q w : Int} {rn : Int → Int} {r : Nat → Int → Int} {la oa ga : Nat} (h : r la 0 = w) (hw : 0 ≤ w ∧ w ≤ Y.1 1) : Ran Y q w rn r 0 la oa ga := by
  refine ⟨fun k hk => ?_, fun k hk => by omega, fun k hk => by omega⟩
  have e : k = 0 := by omega
  subst e
  exact ⟨h, hw⟩
theorem Ran_s {Y : Sg} {q w : Int} {rn : Int → Int} {r r2 : Nat → Int → Int} {n : Nat} {la oa ga : Nat} (h : Ran Y q w rn r n la oa ga) (l1 : ∀ j : Int, j ≠ n + 1 → r2 la j = r la j) (l2 : r2 la ((n : Int) + 1) = dW Y q (lev Y q w rn n) (rn n)) (o1 : ∀ j : Int, j ≠ n → r2 oa j = r oa j) (o2 : r2 oa n = max 0 (lev Y q w rn n + rn n - Y.1 1)) (g1 : ∀ j : Int, ¬ ((n : Int) * 6 ≤ j ∧ j < (n : Int) * 6 + 6) → r2 ga j = r ga j) (g2 : ∀ f : Int, 0 ≤ f → f < Y.1 0 → r2 ga ((n : Int) * 6 + f) = dGt Y q (lev Y q w rn n) (rn n) f) (rg : 0 ≤ dW Y q (lev Y q w rn n) (rn n) ∧ dW Y q (lev Y q w rn n) (rn n) ≤ Y.1 1) (gr : ∀ f : Int, 0 ≤ f → f < Y.1 0 → 0 ≤ dGt Y q (lev Y q w rn n) (rn n) f ∧ dGt Y q (lev Y q w rn n) (rn n) f ≤ 14) (h6 : Y.1 0 ≤ 6) : Ran Y q w rn r2 (n + 1) la oa ga := by
  refine ⟨fun k hk => ?_, fun k hk => ?_, fun k hk f f0 f1 => ?_⟩
  · by_cases e : k = n + 1
    · subst e
      exact ⟨l2, rg⟩
    · rw [l1 k (by omega)]; exact h.1 k (by omega)
  · by_cases e : k = n
    · subst e; exact o2
    · rw [o1 k (by omega)]; exact h.2.1 k (by omega)
  · by_cases e : k = n
    · subst e; exact ⟨g2 f f0 f1, gr f f0 f1⟩
    · rw [g1 _ (by omega)]; exact h.2.2 k (by omega) f f0 f1
theorem Ran_le {Y : Sg} {q w : Int} {rn : Int → Int} {r : Nat → Int → Int} {n m : Nat} {la oa ga : Nat} (h : Ran Y q w rn r n la oa ga) (hm : m ≤ n) : Ran Y q w rn r m la oa ga :=
  ⟨fun k hk => h.1 k (by omega), fun k hk => h.2.1 k (by omega), fun k hk => h.2.2 k (by omega)⟩
