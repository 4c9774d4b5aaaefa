theorem lev_cong {Y : Sg} {q w : Int} {rn rn' : Int → Int} : ∀ {k : Nat}, (∀ i : Nat, i < k → rn i = rn' i) → lev Y q w rn k = lev Y q w rn' k
  | 0, _ => rfl
  | k + 1, h => by rw [lev, lev, lev_cong (fun i hi => h i (by omega)), h k (by omega)]
theorem gD_cong {Y : Sg} {q w : Int} {rn rn' : Int → Int} {f k n : Int} (h : ∀ d : Int, 0 ≤ d → d < n → rn d = rn' d) (k0 : 0 ≤ k) (k1 : k < n) : gD Y q w rn f k = gD Y q w rn' f k := by
  unfold gD
  rw [lev_cong (rn := rn) (rn' := rn') (fun i hi => h i (by omega) (by omega)), h k k0 k1]
theorem NV_cong {Y : Sg} {q w : Int} {rn rn' : Int → Int} {f n : Int} (h : ∀ d : Int, 0 ≤ d → d < n → rn d = rn' d) : NV Y q w rn n f ↔ NV Y q w rn' n f :=
  ⟨fun h2 k k0 k1 => by rw [← gD_cong h k0 k1]; exact h2 k k0 k1, fun h2 k k0 k1 => by rw [gD_cong h k0 k1]; exact h2 k k0 k1⟩
/-- the reference's scratch, all of it -/
def MY (st S : Sg) : Prop := (∀ i, i ≠ 14 → i ≠ 17 → i ≠ 18 → i ≠ 19 → S.1 i = st.1 i) ∧ (∀ a, (a < 10 ∨ a = 13 ∨ 18 < a) → S.2 a = st.2 a)
theorem MX.y {a b : Sg} (h : MX a b) : MY a b := ⟨fun i h1 _ _ h4 => h.1 i h1 h4, fun i hi => h.2 i (by omega)⟩
theorem ur_upI {r : Nat → Int → Int} {rn : Int → Int} {d v : Int} (h : ∀ j : Int, j ≠ d → r 4 j = rn j) : ur r 4 d v 4 = upI rn d v := by
  funext j
  rw [ur_c]
  unfold upI
  by_cases e : j = d
  · rw [if_pos e, if_pos e]
  · rw [if_neg e, if_neg e]; exact h j e
