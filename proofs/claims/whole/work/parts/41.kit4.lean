def zlshl (x y : Int) : Int := (jI x <<< ((iI y).toInt64 &&& 63)).toInt
theorem jI_toInt (x : Int64) : jI x.toInt = x := Int64.ofInt_toInt x
theorem zlshl1 {n : Int} (h0 : 0 ≤ n) (h1 : n ≤ 6) : zlshl 1 n = ((2 ^ n.toNat : Nat) : Int) := by
  rcases (show n = 0 ∨ n = 1 ∨ n = 2 ∨ n = 3 ∨ n = 4 ∨ n = 5 ∨ n = 6 by omega) with rfl | rfl | rfl | rfl | rfl | rfl | rfl <;> decide
theorem k_lshl {σ : Type} {w : WD σ} {G : Heap → List Loc → JFrame → Prop} {H0 : Heap} {m : MethodId} {cc : ByteArray} {own : String} {nL : Nat} {R : Room} {st : σ} {pc : Nat} {lo : List (Nat × Value)} {sk : List Value} (hE : KE w G H0 m cc own nL R) {x y : Int} (hd : decode cc pc = .ok (.lshl, 1)) (k : KW w G H0 m nL st (pc + 1) lo (.long (jI (zlshl x y)) :: sk)) : KW w G H0 m nL st pc lo (.int (iI y) :: .long (jI x) :: sk) := by
  obtain ⟨p, l, e, s, args, below, meth, c, Q, cells, slots, rfl, rfl, hx, hb, hml, hown, hts, hK, hw, hc1, hc2⟩ := hE
  exact fun H locs ls hP hS hl => lv_lshl hx hb hd rfl (by have h1 := k H locs ls hP hS hl; unfold zlshl at h1; rw [jI_toInt] at h1; exact h1)
theorem zor0 {x : Int} (h : in32 x) : zor x 0 = x := by
  unfold zor
  rw [show iI x ||| iI 0 = iI x from by rw [show iI 0 = (0 : Int32) from rfl]; simp]
  exact iI_val h.1 h.2
theorem lvT_LVf {Y : Sg} {q w : Int} {rn : Int → Int} {t x f : Int} (ht : 0 ≤ t) (hx : x ≤ GV Y f (dW Y q (lev Y q w rn t.toNat) (rn t))) {L : Int → Int} (h1 : ∀ j : Int, 0 ≤ j → j ≤ t → L j = lev Y q w rn j.toNat) (h2 : L (t + 1) = dW Y q (lev Y q w rn t.toNat) (rn t) - x) : ∀ k : Nat, lvT Y q w rn t x f k = LVf Y q rn t L k
  | 0 => by
    show w = L 0
    rw [h1 0 (by omega) ht]; rfl
  | k + 1 => by
    have ih := lvT_LVf ht hx h1 h2 k
    show _ = (if (k : Int) ≤ t then L ((k : Int) + 1) else dW Y q (LVf Y q rn t L k) (rn k))
    rw [lvT]
    by_cases e : (k : Int) ≤ t
    · rw [if_pos e]
      have el : lvT Y q w rn t x f k = lev Y q w rn k := lvT_lev (Or.inr e)
      rw [el]
      by_cases e2 : (k : Int) = t
      · have ek : t.toNat = k := by omega
        rw [ek] at hx h2
        rw [← e2] at hx h2
        rw [if_pos ⟨e2, hx⟩, h2]
      · rw [if_neg (fun h => e2 h.1), h1 _ (by omega) (by omega), show ((k : Int) + 1).toNat = k + 1 by omega, lev]
    · rw [if_neg e, if_neg (by omega), ih]
