theorem lev_cong {Y : Sg} {q w : Int} {rn rn' : Int → Int} : ∀ {k : Nat}, (∀ i : Nat, i < k → rn i = rn' i) → lev Y q w rn k = lev Y q w rn' k
  | 0, _ => rfl
  | k + 1, h => by rw [lev, lev, lev_cong (fun i hi => h i (by omega)), h k (by omega)]
theorem gD_cong {Y : Sg} {q w : Int} {rn rn' : Int → Int} {f k n : Int} (h : ∀ d : Int, 0 ≤ d → d < n → rn d = rn' d) (k0 : 0 ≤ k) (k1 : k < n) : gD Y q w rn f k = gD Y q w rn' f k := by
  unfold gD
  rw [lev_cong (rn := rn) (rn' := rn') (fun i hi => h i (by omega) (by omega)), h k k0 k1]
theorem NV_cong {Y : Sg} {q w : Int} {rn rn' : Int → Int} {f n : Int} (h : ∀ d : Int, 0 ≤ d → d < n → rn d = rn' d) : NV Y q w rn n f ↔ NV Y q w rn' n f :=
  ⟨fun h2 k k0 k1 => by rw [← gD_cong h k0 k1]; exact h2 k k0 k1, fun h2 k k0 k1 => by rw [gD_cong h k0 k1]; exact h2 k k0 k1⟩
/-- the days behind the first -/
theorem lev_sh {Y : Sg} {q w : Int} {rn : Int → Int} : ∀ k : Nat, lev Y q w rn (k + 1) = lev Y q (dW Y q w (rn 0)) (fun j => rn (j + 1)) k
  | 0 => rfl
  | k + 1 => by
    have e : ((k + 1 : Nat) : Int) = (k : Int) + 1 := by omega
    show dW Y q (lev Y q w rn (k + 1)) (rn ((k + 1 : Nat) : Int)) = dW Y q (lev Y q (dW Y q w (rn 0)) (fun j => rn (j + 1)) k) (rn ((k : Int) + 1))
    rw [lev_sh k, e]
theorem NV_sh {Y : Sg} {q w : Int} {rn : Int → Int} {f : Int} {k : Nat} : NV Y q w rn ((k + 1 : Nat) : Int) f ↔ (Y.2 2 f ≤ dGt Y q w (rn 0) f ∧ NV Y q (dW Y q w (rn 0)) (fun j => rn (j + 1)) (k : Int) f) := by
  constructor
  · intro h
    refine ⟨h 0 (by omega) (by omega), fun i i0 i1 => ?_⟩
    have h5 : Y.2 2 f ≤ dGt Y q (lev Y q w rn (i + 1).toNat) (rn (i + 1)) f := h (i + 1) (by omega) (by omega)
    rw [show (i + 1).toNat = i.toNat + 1 by omega, lev_sh] at h5
    exact h5
  · intro h i i0 i1
    by_cases e : i = 0
    · rw [e]; exact h.1
    · have h6 : Y.2 2 f ≤ dGt Y q (lev Y q (dW Y q w (rn 0)) (fun j => rn (j + 1)) (i - 1).toNat) (rn (i - 1 + 1)) f := h.2 (i - 1) (by omega) (by omega)
      rw [show i - 1 + 1 = i by omega, ← lev_sh, show (i - 1).toNat + 1 = i.toNat by omega] at h6
      exact h6
/-- rows by their first day -/
theorem CT_two (P : Int → Prop) : ∀ m : Nat, CT P (2 * m) = CT (fun r => P (2 * r)) m + CT (fun r => P (2 * r + 1)) m
  | 0 => rfl
  | m + 1 => by
    have ih := CT_two P m
    have e1 : ((2 * m : Nat) : Int) = 2 * (m : Int) := by omega
    have e2 : ((2 * m + 1 : Nat) : Int) = 2 * (m : Int) + 1 := by omega
    rw [show 2 * (m + 1) = 2 * m + 1 + 1 by omega]
    by_cases h0 : P (2 * (m : Int))
    · have a0 := CT_y (P := P) (k := 2 * m) (by rw [e1]; exact h0)
      have b0 := CT_y (P := fun r => P (2 * r)) (k := m) h0
      by_cases h1 : P (2 * (m : Int) + 1)
      · have a1 := CT_y (P := P) (k := 2 * m + 1) (by rw [e2]; exact h1)
        have b1 := CT_y (P := fun r => P (2 * r + 1)) (k := m) h1
        omega
      · have a1 := CT_n (P := P) (k := 2 * m + 1) (by rw [e2]; exact h1)
        have b1 := CT_n (P := fun r => P (2 * r + 1)) (k := m) h1
        omega
    · have a0 := CT_n (P := P) (k := 2 * m) (by rw [e1]; exact h0)
      have b0 := CT_n (P := fun r => P (2 * r)) (k := m) h0
      by_cases h1 : P (2 * (m : Int) + 1)
      · have a1 := CT_y (P := P) (k := 2 * m + 1) (by rw [e2]; exact h1)
        have b1 := CT_y (P := fun r => P (2 * r + 1)) (k := m) h1
        omega
      · have a1 := CT_n (P := P) (k := 2 * m + 1) (by rw [e2]; exact h1)
        have b1 := CT_n (P := fun r => P (2 * r + 1)) (k := m) h1
        omega
theorem bit_s : ∀ (r : Fin 64) (s : Fin 2) (d : Fin 6), zand (zshr (2 * ((r.val : Nat) : Int) + ((s.val : Nat) : Int)) (((d.val : Nat) : Int) + 1)) 1 = 0 ↔ zand (zshr ((r.val : Nat) : Int) ((d.val : Nat) : Int)) 1 = 0 := by decide +kernel
theorem bit_0 : ∀ (r : Fin 64) (s : Fin 2), zand (zshr (2 * ((r.val : Nat) : Int) + ((s.val : Nat) : Int)) 0) 1 = 0 ↔ ((s.val : Nat) : Int) = 0 := by decide +kernel
/-- the rain of a day of a sort -/
def RSb (a b s : Int) : Int := if s = 0 then a else b
theorem RRb_s {a b r s d : Int} (hr : 0 ≤ r ∧ r < 64) (hs : s = 0 ∨ s = 1) (hd : 0 ≤ d ∧ d < 6) : RRb a b (2 * r + s) (d + 1) = RRb a b r d := by
  obtain ⟨x, rfl⟩ := Int.eq_ofNat_of_zero_le hr.1
  obtain ⟨y, rfl⟩ := Int.eq_ofNat_of_zero_le (show 0 ≤ s by omega)
  obtain ⟨z, rfl⟩ := Int.eq_ofNat_of_zero_le hd.1
  have h : zand (zshr (2 * (x : Int) + (y : Int)) ((z : Int) + 1)) 1 = 0 ↔ zand (zshr (x : Int) (z : Int)) 1 = 0 := bit_s ⟨x, by omega⟩ ⟨y, by omega⟩ ⟨z, by omega⟩
  unfold RRb
  by_cases c : zand (zshr (x : Int) (z : Int)) 1 = 0
  · rw [if_pos c, if_pos (h.mpr c)]
  · rw [if_neg c, if_neg (fun q => c (h.mp q))]
theorem RRb_0 {a b r s : Int} (hr : 0 ≤ r ∧ r < 64) (hs : s = 0 ∨ s = 1) : RRb a b (2 * r + s) 0 = RSb a b s := by
  obtain ⟨x, rfl⟩ := Int.eq_ofNat_of_zero_le hr.1
  obtain ⟨y, rfl⟩ := Int.eq_ofNat_of_zero_le (show 0 ≤ s by omega)
  have h : zand (zshr (2 * (x : Int) + (y : Int)) 0) 1 = 0 ↔ (y : Int) = 0 := bit_0 ⟨x, by omega⟩ ⟨y, by omega⟩
  unfold RRb RSb
  by_cases c : (y : Int) = 0
  · rw [if_pos c, if_pos (h.mpr c)]
  · rw [if_neg c, if_neg (fun q => c (h.mp q))]
/-- of the rows of k days that begin with w: those by which a tap is dry, as the class counts them -/
noncomputable def DRt (Y : Sg) (q f : Int) (k : Nat) (D : Int → Int) (w r : Int) : Int := if dGt Y q w r f < Y.2 2 f then ((2 ^ k : Nat) : Int) else D (dW Y q w r)
noncomputable def DRc (Y : Sg) (q f a b : Int) : Nat → Int → Int
  | 0 => fun _ => 0
  | k + 1 => fun w => SM (fun s => DRt Y q f k (DRc Y q f a b k) w (RSb a b s)) 2
theorem DRc_0 {Y : Sg} {q f a b w : Int} : DRc Y q f a b 0 w = 0 := rfl
theorem DRc_s {Y : Sg} {q f a b w : Int} {k : Nat} : DRc Y q f a b (k + 1) w = SM (fun s => DRt Y q f k (DRc Y q f a b k) w (RSb a b s)) 2 := rfl
theorem DRc_is {Y : Sg} {q f a b : Int} : ∀ k : Nat, k ≤ 6 → ∀ w : Int, DRc Y q f a b k w = CT (fun row => ¬ NV Y q w (RRb a b row) (k : Int) f) (2 ^ k)
  | 0, _, w => by
    have h := CT_n (P := fun row => ¬ NV Y q w (RRb a b row) ((0 : Nat) : Int) f) (k := 0) (fun h => h (fun i i0 i1 => by omega))
    rw [DRc_0]
    exact h.symm
  | k + 1, hk, w => by
    have ih := DRc_is (Y := Y) (q := q) (f := f) (a := a) (b := b) k (by omega)
    have p5 : 2 ^ k ≤ 32 := Nat.pow_le_pow_right (n := 2) (by decide) (show k ≤ 5 by omega)
    have key : ∀ (s : Int), (s = 0 ∨ s = 1) → ∀ g : Int → Int, (∀ r, g r = 2 * r + s) → CT (fun r => ¬ NV Y q w (RRb a b (g r)) ((k + 1 : Nat) : Int) f) (2 ^ k) = DRt Y q f k (DRc Y q f a b k) w (RSb a b s) := by
      intro s hs g hg
      have e0 : ∀ r : Int, 0 ≤ r → r < ((2 ^ k : Nat) : Int) → RRb a b (g r) 0 = RSb a b s := fun r r0 r1 => by rw [hg r]; exact RRb_0 (by omega) hs
      unfold DRt
      by_cases c : dGt Y q w (RSb a b s) f < Y.2 2 f
      · rw [if_pos c]
        refine CT_all.mpr (fun r r0 r1 hn => ?_)
        have h5 := (NV_sh.mp hn).1
        rw [e0 r r0 r1] at h5
        omega
      · rw [if_neg c, ih]
        refine CT_cong (fun r r0 r1 => not_congr ?_)
        have e := NV_cong (Y := Y) (q := q) (w := dW Y q w (RSb a b s)) (f := f) (n := (k : Int)) (rn := fun j => RRb a b (g r) (j + 1)) (rn' := RRb a b r) (fun d d0 d1 => by
          show RRb a b (g r) (d + 1) = _
          rw [hg r]
          exact RRb_s (by omega) hs (by omega))
        rw [NV_sh, e0 r r0 r1]
        exact ⟨fun h => e.mp h.2, fun h => ⟨by omega, e.mpr h⟩⟩
    have k0 : CT (fun r => ¬ NV Y q w (RRb a b (2 * r)) ((k + 1 : Nat) : Int) f) (2 ^ k) = DRt Y q f k (DRc Y q f a b k) w (RSb a b 0) := key 0 (Or.inl rfl) (fun r => 2 * r) (fun r => by omega)
    have k1 : CT (fun r => ¬ NV Y q w (RRb a b (2 * r + 1)) ((k + 1 : Nat) : Int) f) (2 ^ k) = DRt Y q f k (DRc Y q f a b k) w (RSb a b 1) := key 1 (Or.inr rfl) (fun r => 2 * r + 1) (fun r => rfl)
    have g : CT (fun row => ¬ NV Y q w (RRb a b row) ((k + 1 : Nat) : Int) f) (2 ^ (k + 1)) = CT (fun r => ¬ NV Y q w (RRb a b (2 * r)) ((k + 1 : Nat) : Int) f) (2 ^ k) + CT (fun r => ¬ NV Y q w (RRb a b (2 * r + 1)) ((k + 1 : Nat) : Int) f) (2 ^ k) := by
      rw [show 2 ^ (k + 1) = 2 * 2 ^ k by rw [Nat.pow_succ, Nat.mul_comm]]
      exact CT_two _ _
    rw [g, k0, k1, DRc_s]
    show (0 + DRt Y q f k (DRc Y q f a b k) w (RSb a b 0)) + DRt Y q f k (DRc Y q f a b k) w (RSb a b 1) = _
    rw [Int.zero_add]
theorem DR_RK {Y : Sg} {f n a b : Int} (h0 : 0 ≤ n) (h1 : n ≤ 6) : DRc Y (Y.1 4) f a b n.toNat (Y.1 3) = RKc Y f n a b := by
  have h := DRc_is (Y := Y) (q := Y.1 4) (f := f) (a := a) (b := b) n.toNat (by omega) (Y.1 3)
  rw [Int.toNat_of_nonneg h0] at h
  exact h
theorem RKc_rng {Y : Sg} {f n a b : Int} (h0 : 0 ≤ n) (h1 : n ≤ 6) : 0 ≤ RKc Y f n a b ∧ RKc Y f n a b ≤ 64 := by
  have h5 := CT_rng (fun row => ¬ NV Y (Y.1 4) (Y.1 3) (RRb a b row) n f) (2 ^ n.toNat)
  have h6 := pow6 h0 h1
  unfold RKc
  omega
