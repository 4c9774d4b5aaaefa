/-! what the calls answer, in numbers -/
def OT (Y : Sg) (f what : Int) : Int := if f < 0 ∨ Y.1 0 ≤ f then -1 else if what = 0 then Y.2 0 f else if what = 1 then Y.2 1 f else if what = 2 then Y.2 2 f else if what = 3 then Y.2 3 f else if what = 4 then WN Y f else -2
noncomputable def GT (Y : Sg) (f d : Int) : Int := if (f < 0 ∨ Y.1 0 ≤ f) ∨ (d < 0 ∨ 9 < d) then -1 else gD Y (Y.1 4) (Y.1 3) (Y.2 4) f d
noncomputable def LE (Y : Sg) (d : Int) : Int := if d < 0 ∨ 10 < d then -1 else if Y.1 0 = 0 then -3 else lev Y (Y.1 4) (Y.1 3) (Y.2 4) d.toNat
noncomputable def OV (Y : Sg) (d : Int) : Int := if d < 0 ∨ 9 < d then -1 else if Y.1 0 = 0 then -3 else max 0 (lev Y (Y.1 4) (Y.1 3) (Y.2 4) d.toNat + Y.2 4 d - Y.1 1)
/-- the pails that no tap gives, of w -/
def NBr (Y : Sg) (w z : Int) : Prop := z ≤ w ∧ (∀ f : Int, 0 ≤ f → f < Y.1 0 → z ≤ Y.2 1 f * Y.1 2) ∧ (z = w ∨ ∃ f : Int, 0 ≤ f ∧ f < Y.1 0 ∧ z = Y.2 1 f * Y.1 2)
theorem NBr_uni {Y : Sg} {w z z' : Int} (h : NBr Y w z) (h' : NBr Y w z') : z = z' := by
  obtain ⟨a, b, c⟩ := h
  obtain ⟨a', b', c'⟩ := h'
  rcases c with c | ⟨f, f0, f1, c⟩ <;> rcases c' with c' | ⟨g, g0, g1, c'⟩
  · omega
  · have := b g g0 g1; omega
  · have := b' f f0 f1; omega
  · have h1 := b g g0 g1
    have h2 := b' f f0 f1
    omega
def NB (Y : Sg) (d z : Int) : Prop := ((d < 0 ∨ 10 < d) ∧ z = -1) ∨ (¬ (d < 0 ∨ 10 < d) ∧ Y.1 0 = 0 ∧ z = -3) ∨ (¬ (d < 0 ∨ 10 < d) ∧ Y.1 0 ≠ 0 ∧ NBr Y (lev Y (Y.1 4) (Y.1 3) (Y.2 4) d.toNat) z)
def DY (Y : Sg) (f z : Int) : Prop := ((f < 0 ∨ Y.1 0 ≤ f) ∧ z = -1) ∨ (¬ (f < 0 ∨ Y.1 0 ≤ f) ∧ FD (fun k => gD Y (Y.1 4) (Y.1 3) (Y.2 4) f k) (Y.2 2 f) 10 z)
/-- refused: n days, a yard -/
def RF (Y : Sg) (n z : Int) (P : Prop) : Prop := ((n < 0 ∨ 10 < n) ∧ z = -2) ∨ (¬ (n < 0 ∨ 10 < n) ∧ Y.1 0 = 0 ∧ z = -3) ∨ (¬ (n < 0 ∨ 10 < n) ∧ Y.1 0 ≠ 0 ∧ P)
def CN (Y : Sg) (n z : Int) : Prop := RF Y n z ((z = 1 ∧ CA Y (Y.1 3) n) ∨ (z = 0 ∧ ¬ CA Y (Y.1 3) n))
def STr (Y : Sg) (n z : Int) : Prop := (z = -9 ∧ ∀ w : Int, 0 ≤ w → w ≤ Y.1 1 → ¬ CA Y w n) ∨ (0 ≤ z ∧ z ≤ Y.1 1 ∧ CA Y z n ∧ ∀ w : Int, 0 ≤ w → w < z → ¬ CA Y w n)
theorem STr_uni {Y : Sg} {n z z' : Int} (h : STr Y n z) (h' : STr Y n z') : z = z' := by
  rcases h with ⟨a, b⟩ | ⟨a0, a1, a2, a3⟩ <;> rcases h' with ⟨c, d⟩ | ⟨c0, c1, c2, c3⟩
  · omega
  · exact absurd c2 (b z' c0 c1)
  · exact absurd a2 (d z a0 a1)
  · rcases Int.lt_trichotomy z z' with t | t | t
    · exact absurd a2 (c3 z a0 t)
    · exact t
    · exact absurd c2 (a3 z' c0 t)
def SA (Y : Sg) (n z : Int) : Prop := RF Y n z (STr Y n z)
/-- how many are never dry by law q -/
noncomputable def NC (Y : Sg) (n q : Int) : Int := CT (fun f => NV Y q (Y.1 3) (Y.2 4) n f) (Y.1 0).toNat
/-- the best of the laws 0 .. m less 1 -/
def BLr (N : Int → Int) (m b c : Int) : Prop := (m = 0 ∧ b = 0 ∧ c = -1) ∨ (0 ≤ b ∧ b < m ∧ c = N b ∧ (∀ q : Int, 0 ≤ q → q < m → N q ≤ c) ∧ (∀ q : Int, 0 ≤ q → q < b → N q < c))
theorem BLr_s {N : Int → Int} {m b c : Int} (h : BLr N m b c) (hm : 0 ≤ m) (h0 : 0 ≤ N m) : BLr N (m + 1) (if N m > c then m else b) (if N m > c then N m else c) := by
  by_cases e : N m > c
  · rw [if_pos e, if_pos e]
    refine Or.inr ⟨hm, by omega, rfl, fun q q0 q1 => ?_, fun q q0 q1 => ?_⟩
    · rcases h with ⟨a1, a2, a3⟩ | ⟨a1, a2, a3, a4, a5⟩
      · have : q = m := by omega
        rw [this]; omega
      · by_cases eq : q = m
        · rw [eq]; omega
        · have := a4 q q0 (by omega); omega
    · rcases h with ⟨a1, a2, a3⟩ | ⟨a1, a2, a3, a4, a5⟩
      · omega
      · have := a4 q q0 (by omega); omega
  · rw [if_neg e, if_neg e]
    rcases h with ⟨a1, a2, a3⟩ | ⟨a1, a2, a3, a4, a5⟩
    · omega
    · refine Or.inr ⟨a1, by omega, a3, fun q q0 q1 => ?_, a5⟩
      by_cases eq : q = m
      · rw [eq]; omega
      · exact a4 q q0 (by omega)
theorem BLr_uni {N : Int → Int} {m b c b' c' : Int} (h : BLr N m b c) (h' : BLr N m b' c') : b = b' ∧ c = c' := by
  rcases h with ⟨a1, a2, a3⟩ | ⟨a1, a2, a3, a4, a5⟩ <;> rcases h' with ⟨d1, d2, d3⟩ | ⟨d1, d2, d3, d4, d5⟩
  · omega
  · omega
  · omega
  · rcases Int.lt_trichotomy b b' with t | t | t
    · have h1 := d5 b a1 t
      have h2 := a4 b' d1 d2
      omega
    · refine ⟨t, ?_⟩
      rw [a3, d3, t]
    · have h1 := a5 b' d1 t
      have h2 := d4 b a1 a2
      omega
/-- best: law or number -/
def BE (Y : Sg) (n what z : Int) : Prop := ((n < 0 ∨ 10 < n) ∨ (what < 0 ∨ 1 < what)) ∧ z = -2 ∨ (¬ ((n < 0 ∨ 10 < n) ∨ (what < 0 ∨ 1 < what)) ∧ Y.1 0 = 0 ∧ z = -3) ∨ (¬ ((n < 0 ∨ 10 < n) ∨ (what < 0 ∨ 1 < what)) ∧ Y.1 0 ≠ 0 ∧ ∃ b c : Int, BLr (NC Y n) 3 b c ∧ z = if what = 0 then b else c)
/-- a yard with one tap at another height -/
def YH (Y : Sg) (f h : Int) : Sg := (Y.1, ur Y.2 1 f h)
def HGr (P : Int → Prop) (z : Int) : Prop := (z = -9 ∧ ∀ h : Int, 0 ≤ h → h ≤ 9 → ¬ P h) ∨ (0 ≤ z ∧ z ≤ 9 ∧ P z ∧ ∀ h : Int, z < h → h ≤ 9 → ¬ P h)
theorem HGr_uni {P : Int → Prop} {z z' : Int} (h : HGr P z) (h' : HGr P z') : z = z' := by
  rcases h with ⟨a, b⟩ | ⟨a0, a1, a2, a3⟩ <;> rcases h' with ⟨c, d⟩ | ⟨c0, c1, c2, c3⟩
  · omega
  · exact absurd c2 (b z' c0 c1)
  · exact absurd a2 (d z a0 a1)
  · rcases Int.lt_trichotomy z z' with t | t | t
    · exact absurd c2 (a3 z' t c1)
    · exact t
    · exact absurd a2 (c3 z t a1)
def HI (Y : Sg) (f n z : Int) : Prop := ((f < 0 ∨ Y.1 0 ≤ f) ∧ z = -1) ∨ (¬ (f < 0 ∨ Y.1 0 ≤ f) ∧ (n < 0 ∨ 10 < n) ∧ z = -2) ∨ (¬ (f < 0 ∨ Y.1 0 ≤ f) ∧ ¬ (n < 0 ∨ 10 < n) ∧ HGr (fun h => NV (YH Y f h) (Y.1 4) (Y.1 3) (Y.2 4) n f) z)
theorem YH_Inv {Y : Sg} (hI : Inv Y) {f h : Int} (hh : 0 ≤ h ∧ h ≤ 9) : Inv (YH Y f h) := by
  obtain ⟨hi0, hi1, hi2, hi3, hi4, hi5, hi6, hi7, hit, hir, him, hin⟩ := hI
  refine ⟨hi0, hi1, hi2, hi3, hi4, hi5, hi6, hi7, fun g g0 g1 => ?_, hir, him, hin⟩
  have a := hit g g0 g1
  refine ⟨a.1, ?_, a.2.2⟩
  show 0 ≤ ur Y.2 1 f h 1 g ∧ ur Y.2 1 f h 1 g ≤ 9
  rw [ur_c]
  split
  · exact hh
  · exact a.2.1
theorem FD_cong {g g' : Int → Int} {nd n z : Int} (h : FD g nd n z) (e : ∀ k : Int, 0 ≤ k → k < n → g k = g' k) : FD g' nd n z := by
  rcases h with ⟨a, b⟩ | ⟨a0, a1, a2, a3⟩
  · exact Or.inl ⟨a, fun k k0 k1 => by rw [← e k k0 k1]; exact b k k0 k1⟩
  · exact Or.inr ⟨a0, a1, by rw [← e z a0 a1]; exact a2, fun k k0 k1 => by rw [← e k k0 (by omega)]; exact a3 k k0 k1⟩
