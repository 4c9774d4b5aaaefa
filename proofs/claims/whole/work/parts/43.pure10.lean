/-- the reference's scratch, all of it -/
def MY (st S : Sg) : Prop := (∀ i, i ≠ 14 → i ≠ 17 → i ≠ 18 → i ≠ 19 → S.1 i = st.1 i) ∧ (∀ a, (a < 10 ∨ a = 13 ∨ 18 < a) → S.2 a = st.2 a)
theorem MX.y {a b : Sg} (h : MX a b) : MY a b := ⟨fun i h1 _ _ h4 => h.1 i h1 h4, fun i hi => h.2 i (by omega)⟩
theorem ur_upI {r : Nat → Int → Int} {rn : Int → Int} {d v : Int} (h : ∀ j : Int, j ≠ d → r 4 j = rn j) : ur r 4 d v 4 = upI rn d v := by
  funext j
  rw [ur_c]
  unfold upI
  by_cases e : j = d
  · rw [if_pos e, if_pos e]
  · rw [if_neg e, if_neg e]; exact h j e
