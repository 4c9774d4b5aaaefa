/-- levels that go on behind day d from told ones -/
noncomputable def LVf (Y : Sg) (q : Int) (rn : Int → Int) (d : Int) (L : Int → Int) : Nat → Int
  | 0 => L 0
  | k + 1 => if (k : Int) ≤ d then L ((k : Int) + 1) else dW Y q (LVf Y q rn d L k) (rn k)
theorem LVf_lo {Y : Sg} {q : Int} {rn : Int → Int} {d : Int} {L : Int → Int} {j : Int} (h0 : 0 ≤ j) (h1 : j ≤ d + 1) : LVf Y q rn d L j.toNat = L j := by
  obtain ⟨k, rfl⟩ := Int.eq_ofNat_of_zero_le h0
  cases k with
  | zero => rfl
  | succ k =>
    show (if (k : Int) ≤ d then L ((k : Int) + 1) else _) = _
    rw [if_pos (by omega)]; rfl
theorem LVf_hi {Y : Sg} {q : Int} {rn : Int → Int} {d : Int} {L : Int → Int} {j : Int} (hd : 0 ≤ d) (h1 : d + 1 < j) : LVf Y q rn d L j.toNat = dW Y q (LVf Y q rn d L (j - 1).toNat) (rn (j - 1)) := by
  obtain ⟨k, rfl⟩ := Int.eq_ofNat_of_zero_le (show 0 ≤ j by omega)
  cases k with
  | zero => omega
  | succ k =>
    show (if (k : Int) ≤ d then _ else dW Y q (LVf Y q rn d L k) (rn k)) = _
    rw [if_neg (by omega), show ((k + 1 : Nat) : Int) - 1 = (k : Int) by omega]; rfl
/-- all marks are so, by levels X -/
def MH (Y : Sg) (X : Nat → Int) : Prop := ∀ k : Int, 0 ≤ k → k < Y.1 7 → X (Y.2 5 k).toNat = Y.2 6 k
/-- one day's rain is another -/
def upI (rn : Int → Int) (d v : Int) : Int → Int := fun j => if j = d then v else rn j
theorem lev_up {Y : Sg} {q w : Int} {rn : Int → Int} {d v : Int} : ∀ {k : Nat}, (k : Int) ≤ d → lev Y q w (upI rn d v) k = lev Y q w rn k
  | 0, _ => rfl
  | k + 1, h => by
    rw [lev, lev, lev_up (by omega)]
    unfold upI
    rw [if_neg (by omega)]
theorem LVf_rain {Y : Sg} {q w : Int} {rn : Int → Int} {d v : Int} {L : Int → Int} (hd : 0 ≤ d) (h1 : ∀ j : Int, 0 ≤ j → j ≤ d → L j = lev Y q w rn j.toNat) (h2 : L (d + 1) = dW Y q (lev Y q w rn d.toNat) v) : ∀ k : Nat, LVf Y q rn d L k = lev Y q w (upI rn d v) k
  | 0 => by
    show L 0 = _
    rw [h1 0 (by omega) hd]; rfl
  | k + 1 => by
    show (if (k : Int) ≤ d then L ((k : Int) + 1) else dW Y q (LVf Y q rn d L k) (rn k)) = dW Y q (lev Y q w (upI rn d v) k) (upI rn d v k)
    by_cases e : (k : Int) ≤ d
    · rw [if_pos e, lev_up e]
      by_cases e2 : (k : Int) = d
      · rw [e2, h2, ← e2]
        unfold upI
        rw [if_pos rfl]; rfl
      · rw [h1 _ (by omega) (by omega), show ((k : Int) + 1).toNat = k + 1 by omega, lev]
        unfold upI
        rw [if_neg e2]
    · rw [if_neg e, LVf_rain hd h1 h2 k]
      unfold upI
      rw [if_neg (by omega)]
/-- rains of a day: how many, or the k-th -/
def RNr (P : Int → Prop) (k z : Int) : Prop := (k = -1 ∧ z = CT P 100) ∨ (0 ≤ k ∧ ((∃ v : Nat, v < 100 ∧ P v ∧ CT P v = k ∧ z = v) ∨ (CT P 100 ≤ k ∧ z = -9)))
theorem CT_mono (P : Int → Prop) : ∀ {a b : Nat}, a ≤ b → CT P a ≤ CT P b
  | a, 0, h => by have : a = 0 := by omega
                  rw [this]; omega
  | a, b + 1, h => by
    rcases Nat.lt_or_ge a (b + 1) with c | c
    · have ih := CT_mono P (a := a) (b := b) (by omega)
      by_cases hp : P b
      · rw [CT_y hp]; omega
      · rw [CT_n hp]; exact ih
    · have : a = b + 1 := by omega
      rw [this]; omega
theorem CT_at {P : Int → Prop} {a b : Nat} (ha : P a) (h : a < b) : CT P a + 1 ≤ CT P b := by
  have h1 := CT_mono P (a := a + 1) (b := b) h
  rw [CT_y ha] at h1
  exact h1
theorem RNr_uni {P : Int → Prop} {k z z' : Int} (h : RNr P k z) (h' : RNr P k z') : z = z' := by
  rcases h with ⟨a, b⟩ | ⟨a, b⟩ <;> rcases h' with ⟨c, d⟩ | ⟨c, d⟩
  · omega
  · omega
  · omega
  · rcases b with ⟨v, v1, v2, v3, v4⟩ | ⟨v1, v2⟩ <;> rcases d with ⟨u, u1, u2, u3, u4⟩ | ⟨u1, u2⟩
    · rcases Nat.lt_trichotomy u v with t | t | t
      · have := CT_at u2 t; omega
      · omega
      · have := CT_at v2 t; omega
    · have := CT_at v2 v1; omega
    · have := CT_at u2 u1; omega
    · omega
def RNp (Y : Sg) (d v : Int) : Prop := MH Y (lev Y (Y.1 4) (Y.1 3) (upI (Y.2 4) d v))
def RN (Y : Sg) (d k z : Int) : Prop := (((d < 0 ∨ 9 < d) ∨ k < -1) ∧ z = -1) ∨ (¬ ((d < 0 ∨ 9 < d) ∨ k < -1) ∧ Y.1 0 = 0 ∧ z = -3) ∨ (¬ ((d < 0 ∨ 9 < d) ∨ k < -1) ∧ Y.1 0 ≠ 0 ∧ RNr (RNp Y d) k z)
/-- who may have drawn by night: by taps -/
noncomputable def TFs (P : Int → Prop) : Nat → Int
  | 0 => 0
  | k + 1 => @ite Int (P k) (Classical.propDecidable _) (zor (TFs P k) (zshl 1 k)) (TFs P k)
theorem TFs_y {P : Int → Prop} {k : Nat} (h : P k) : TFs P (k + 1) = zor (TFs P k) (zshl 1 k) := by rw [TFs, if_pos h]
theorem TFs_n {P : Int → Prop} {k : Nat} (h : ¬ P k) : TFs P (k + 1) = TFs P k := by rw [TFs, if_neg h]
/-- the levels when v pails are gone behind day d -/
noncomputable def LTh (Y : Sg) (d v : Int) : Int → Int := fun j => if j = d + 1 then lev Y (Y.1 4) (Y.1 3) (Y.2 4) (d + 1).toNat - v else lev Y (Y.1 4) (Y.1 3) (Y.2 4) j.toNat
def THp (Y : Sg) (d v f : Int) : Prop := v ≤ GV Y f (lev Y (Y.1 4) (Y.1 3) (Y.2 4) (d + 1).toNat) ∧ MH Y (LVf Y (Y.1 4) (Y.2 4) d (LTh Y d v))
def TH (Y : Sg) (d v z : Int) : Prop := ((d < 0 ∨ 9 < d) ∧ z = -1) ∨ (¬ (d < 0 ∨ 9 < d) ∧ (v < 1 ∨ 9 < v) ∧ z = -2) ∨ (¬ (d < 0 ∨ 9 < d) ∧ ¬ (v < 1 ∨ 9 < v) ∧ Y.1 0 = 0 ∧ z = -3) ∨ (¬ (d < 0 ∨ 9 < d) ∧ ¬ (v < 1 ∨ 9 < v) ∧ Y.1 0 ≠ 0 ∧ z = TFs (THp Y d v) (Y.1 0).toNat)
theorem MH_cong {Y : Sg} {X X' : Nat → Int} (h : ∀ k : Nat, X k = X' k) : MH Y X ↔ MH Y X' := by
  have e : X = X' := funext h
  rw [e]
theorem LVf_cong {Y : Sg} {q : Int} {rn : Int → Int} {d : Int} {L L' : Int → Int} (h : ∀ j : Int, 0 ≤ j → j ≤ d + 1 → L j = L' j) (hd : 0 ≤ d) : ∀ k : Nat, LVf Y q rn d L k = LVf Y q rn d L' k
  | 0 => h 0 (by omega) (by omega)
  | k + 1 => by
    show (if (k : Int) ≤ d then L ((k : Int) + 1) else dW Y q (LVf Y q rn d L k) (rn k)) = (if (k : Int) ≤ d then L' ((k : Int) + 1) else dW Y q (LVf Y q rn d L' k) (rn k))
    by_cases e : (k : Int) ≤ d
    · rw [if_pos e, if_pos e]; exact h _ (by omega) (by omega)
    · rw [if_neg e, if_neg e, LVf_cong h hd k]
