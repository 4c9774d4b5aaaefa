/-- the reference's sheets -/
def SHm (st : Sg) : Prop := (∀ k : Int, 0 ≤ k → k < 4 → (st.2 9 k = -9 ∨ (0 ≤ st.2 9 k ∧ st.2 9 k ≤ 2)) ∧ (0 ≤ st.2 8 k ∧ st.2 8 k ≤ 60)) ∧ (∀ k j : Int, 0 ≤ k → k < 4 → 0 ≤ j → j < st.2 8 k → -2147483648 ≤ st.2 13 (60 * k + j) ∧ st.2 13 (60 * k + j) < 2147483648)
def AGf (st : Sg) (k l i n : Int) : Int := if st.2 9 k ≠ -9 ∧ st.2 9 k ≠ l then 2 else if st.2 9 k = -9 then 1 else if n < 0 then 4 else if i < 0 ∨ st.2 8 k < i ∨ st.2 8 k - i < n then 3 else 0
def FAm (st : Sg) (k i l : Int) : Int := if st.2 9 k ≠ -9 ∧ st.2 9 k ≠ l then 2 else if st.2 9 k = -9 then 1 else if 0 ≤ i ∧ i ≤ st.2 8 k - 1 then 0 else 3
