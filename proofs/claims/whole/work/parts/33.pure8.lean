/-! fb_holes is pasted from the laws given for pasting -/
theorem fb_holes : ∀ (m n : Nat) (f : Nat → Nat), (∀ i, i < n → f i < m) → (∀ i j, i < j → j < n → f i ≠ f j) → n ≤ m := by
  intro m
  induction m with
  | zero =>
    intro n f h1 _
    rcases Nat.eq_zero_or_pos n with h | h
    · omega
    · exact absurd (h1 0 h) (Nat.not_lt_zero _)
  | succ m ih =>
    intro n f h1 h2
    by_cases hx : ∃ i, i < n ∧ f i = m
    · obtain ⟨a, ha, hfa⟩ := hx
      have hg := ih (n - 1) (fun i => if i < a then f i else f (i + 1)) (by
        intro i hi
        by_cases q : i < a
        · simp only [if_pos q]
          have b1 := h1 i (by omega)
          have b2 := h2 i a q ha
          omega
        · simp only [if_neg q]
          have b1 := h1 (i + 1) (by omega)
          have b2 := h2 a (i + 1) (by omega) (by omega)
          omega) (by
        intro i j hij hj
        by_cases q : i < a
        · by_cases r : j < a
          · simp only [if_pos q, if_pos r]
            exact h2 i j hij (by omega)
          · simp only [if_pos q, if_neg r]
            exact h2 i (j + 1) (by omega) (by omega)
        · have r : ¬ j < a := by omega
          simp only [if_neg q, if_neg r]
          exact h2 (i + 1) (j + 1) (by omega) (by omega))
      omega
    · have hg := ih n f (fun i hi => by
        have b1 := h1 i hi
        have b2 : f i ≠ m := fun e => hx ⟨i, hi, e⟩
        omega) h2
      omega
/-- agreement of all that a day needs, but law, first water, rain -/
def AgD (st Y : Sg) : Prop := (∀ i, i ∈ [0, 1, 2, 5, 6, 7] → st.1 i = Y.1 i) ∧ (∀ a, a ∈ [0, 1, 2, 3, 5, 6] → st.2 a = Y.2 a)
theorem Ag.d {st Y : Sg} (h : Ag st Y) : AgD st Y := ⟨fun i hi => h.1 i (by simp only [List.mem_cons, List.mem_nil_iff, or_false] at hi; omega), fun a ha => h.2 a (by simp only [List.mem_cons, List.mem_nil_iff, or_false] at ha; omega)⟩
theorem AgD.of {st S Y : Sg} (h : AgD st Y) (h1 : ∀ i, i < 8 → S.1 i = st.1 i) (h2 : ∀ a, a < 7 → S.2 a = st.2 a) : AgD S Y := ⟨fun i hi => (h1 i (by simp only [List.mem_cons, List.mem_nil_iff, or_false] at hi; omega)).trans (h.1 i hi), fun a ha => (h2 a (by simp only [List.mem_cons, List.mem_nil_iff, or_false] at ha; omega)).trans (h.2 a ha)⟩
/-- the reference's scratch of days: only it differs -/
def MX (st S : Sg) : Prop := (∀ i, i ≠ 14 → i ≠ 19 → S.1 i = st.1 i) ∧ (∀ a, (a < 12 ∨ a = 13 ∨ 17 < a) → S.2 a = st.2 a)
theorem MX.refl (st : Sg) : MX st st := ⟨fun _ _ _ => rfl, fun _ _ => rfl⟩
theorem MX.trans {a b c : Sg} (h : MX a b) (h2 : MX b c) : MX a c := ⟨fun i hi hj => (h2.1 i hi hj).trans (h.1 i hi hj), fun i hi => (h2.2 i hi).trans (h.2 i hi)⟩
theorem MX.agd {a b Y : Sg} (h : MX a b) (h2 : AgD a Y) : AgD b Y := h2.of (fun i hi => h.1 i (by omega) (by omega)) (fun a ha => h.2 a (by omega))
theorem MX.ag {a b Y : Sg} (h : MX a b) (h2 : Ag a Y) : Ag b Y := ⟨fun i hi => (h.1 i (by omega) (by omega)).trans (h2.1 i hi), fun i hi => (h.2 i (by omega)).trans (h2.2 i hi)⟩
/-- levels, with a thief behind day t of x pails at tap f -/
noncomputable def lvT (Y : Sg) (q w : Int) (rn : Int → Int) (t x f : Int) : Nat → Int
  | 0 => w
  | k + 1 => if (k : Int) = t ∧ x ≤ GV Y f (dW Y q (lvT Y q w rn t x f k) (rn k)) then dW Y q (lvT Y q w rn t x f k) (rn k) - x else dW Y q (lvT Y q w rn t x f k) (rn k)
theorem lvT_lev {Y : Sg} {q w : Int} {rn : Int → Int} {t x f : Int} : ∀ {k : Nat}, (t < 0 ∨ (k : Int) ≤ t) → lvT Y q w rn t x f k = lev Y q w rn k
  | 0, _ => rfl
  | k + 1, h => by
    rw [lvT, lev, lvT_lev (by omega), if_neg (by omega)]
/-- the first tap that isn't done -/
def NT (Y : Sg) (q : Int) (dn : Int → Int) (z : Int) : Prop := (z = -9 ∧ ∀ f : Int, 0 ≤ f → f < Y.1 0 → dn f = 1) ∨ (0 ≤ z ∧ z < Y.1 0 ∧ dn z = 0 ∧ ∀ f : Int, 0 ≤ f → f < Y.1 0 → dn f = 0 → f = z ∨ BF Y q z f)
