/-- the class's scratch: only it differs -/
def XS (st S : Sg) : Prop := (∀ i, i ≠ 10 → S.1 i = st.1 i) ∧ (∀ a, (a < 9 ∨ 12 < a) → S.2 a = st.2 a)
theorem XS.refl (st : Sg) : XS st st := ⟨fun _ _ => rfl, fun _ _ => rfl⟩
theorem XS.trans {a b c : Sg} (h : XS a b) (h2 : XS b c) : XS a c := ⟨fun i hi => (h2.1 i hi).trans (h.1 i hi), fun i hi => (h2.2 i hi).trans (h.2 i hi)⟩
theorem XS.ag {a b Y : Sg} (h : XS a b) (h2 : Ag a Y) : Ag b Y := ⟨fun i hi => (h.1 i (by omega)).trans (h2.1 i hi), fun i hi => (h.2 i (by omega)).trans (h2.2 i hi)⟩
/-- the first dry day, of what was got by days -/
def FD (g : Int → Int) (nd n z : Int) : Prop := (z = -9 ∧ ∀ k : Int, 0 ≤ k → k < n → nd ≤ g k) ∨ (0 ≤ z ∧ z < n ∧ g z < nd ∧ ∀ k : Int, 0 ≤ k → k < z → nd ≤ g k)
theorem FD_uni {g g' : Int → Int} {nd n z z' : Int} (h : FD g nd n z) (h' : FD g' nd n z') (e : ∀ k : Int, 0 ≤ k → k < n → g k = g' k) : z = z' := by
  rcases h with ⟨a, b⟩ | ⟨a0, a1, a2, a3⟩ <;> rcases h' with ⟨c, d⟩ | ⟨c0, c1, c2, c3⟩
  · omega
  · have h1 := b z' c0 c1
    have h2 := e z' c0 c1
    omega
  · have h1 := d z a0 a1
    have h2 := e z a0 a1
    omega
  · rcases Int.lt_trichotomy z z' with t | t | t
    · have h1 := c3 z a0 t
      have h2 := e z a0 a1
      omega
    · exact t
    · have h1 := a3 z' c0 t
      have h2 := e z' c0 c1
      omega
theorem FD_none {g : Int → Int} {nd n z : Int} (h : FD g nd n z) : z = -9 ↔ ∀ k : Int, 0 ≤ k → k < n → nd ≤ g k := by
  rcases h with ⟨a, b⟩ | ⟨a0, a1, a2, a3⟩
  · exact ⟨fun _ => b, fun _ => a⟩
  · exact ⟨fun h => by omega, fun h => by have := h z a0 a1; omega⟩
/-- how many of the first k -/
noncomputable def CT (P : Int → Prop) : Nat → Int
  | 0 => 0
  | k + 1 => CT P k + @ite Int (P k) (Classical.propDecidable _) 1 0
theorem CT_y {P : Int → Prop} {k : Nat} (h : P k) : CT P (k + 1) = CT P k + 1 := by
  rw [CT, if_pos h]
theorem CT_n {P : Int → Prop} {k : Nat} (h : ¬ P k) : CT P (k + 1) = CT P k := by
  rw [CT, if_neg h]; omega
theorem CT_rng (P : Int → Prop) : ∀ k : Nat, 0 ≤ CT P k ∧ CT P k ≤ k
  | 0 => by rw [CT]; omega
  | k + 1 => by
    have ih := CT_rng P k
    by_cases h : P k
    · rw [CT_y h]; omega
    · rw [CT_n h]; omega
theorem CT_cong {P Q : Int → Prop} : ∀ {k : Nat}, (∀ i : Int, 0 ≤ i → i < k → (P i ↔ Q i)) → CT P k = CT Q k
  | 0, _ => rfl
  | k + 1, h => by
    have ih := CT_cong (P := P) (Q := Q) (k := k) (fun i i0 i1 => h i i0 (by omega))
    have hk := h k (by omega) (by omega)
    by_cases hp : P k
    · rw [CT_y hp, CT_y (hk.mp hp), ih]
    · rw [CT_n hp, CT_n (fun q => hp (hk.mpr q)), ih]
theorem CT_all {P : Int → Prop} : ∀ {k : Nat}, CT P k = k ↔ ∀ i : Int, 0 ≤ i → i < k → P i
  | 0 => ⟨fun _ i i0 i1 => by omega, fun _ => rfl⟩
  | k + 1 => by
    have ih := CT_all (P := P) (k := k)
    have r := CT_rng P k
    by_cases hp : P k
    · rw [CT_y hp]
      constructor
      · intro h i i0 i1
        by_cases e : i = k
        · rw [e]; exact hp
        · exact ih.mp (by omega) i i0 (by omega)
      · intro h
        have := ih.mpr (fun i i0 i1 => h i i0 (by omega))
        omega
    · rw [CT_n hp]
      constructor
      · intro h; omega
      · intro h; exact absurd (h k (by omega) (by omega)) hp
/-- got by days, of a run -/
noncomputable def gD (Y : Sg) (q w : Int) (rn : Int → Int) (f k : Int) : Int := dGt Y q (lev Y q w rn k.toNat) (rn k) f
/-- never dry -/
def NV (Y : Sg) (q w : Int) (rn : Int → Int) (n f : Int) : Prop := ∀ k : Int, 0 ≤ k → k < n → Y.2 2 f ≤ gD Y q w rn f k
theorem Ran_gD {Y : Sg} {q w : Int} {rn : Int → Int} {r : Nat → Int → Int} {n : Nat} {la oa ga : Nat} (h : Ran Y q w rn r n la oa ga) {f k : Int} (f0 : 0 ≤ f) (f1 : f < Y.1 0) (k0 : 0 ≤ k) (k1 : k < n) : r ga (k * 6 + f) = gD Y q w rn f k ∧ 0 ≤ gD Y q w rn f k ∧ gD Y q w rn f k ≤ 14 := by
  have e := h.2.2 k.toNat (by omega) f f0 f1
  rw [Int.toNat_of_nonneg k0] at e
  exact e
theorem Ran_lev {Y : Sg} {q w : Int} {rn : Int → Int} {r : Nat → Int → Int} {n : Nat} {la oa ga : Nat} (h : Ran Y q w rn r n la oa ga) {k : Int} (k0 : 0 ≤ k) (k1 : k ≤ n) : r la k = lev Y q w rn k.toNat ∧ 0 ≤ lev Y q w rn k.toNat ∧ lev Y q w rn k.toNat ≤ Y.1 1 := by
  have e := h.1 k.toNat (by omega)
  rw [Int.toNat_of_nonneg k0] at e
  exact e
theorem Ran_over {Y : Sg} {q w : Int} {rn : Int → Int} {r : Nat → Int → Int} {n : Nat} {la oa ga : Nat} (h : Ran Y q w rn r n la oa ga) {k : Int} (k0 : 0 ≤ k) (k1 : k < n) : r oa k = max 0 (lev Y q w rn k.toNat + rn k - Y.1 1) := by
  have e := h.2.1 k.toNat (by omega)
  rw [Int.toNat_of_nonneg k0] at e
  exact e
/-- a sum over days -/
def SM (g : Int → Int) : Nat → Int
  | 0 => 0
  | k + 1 => SM g k + g k
theorem SM_cong {g h : Int → Int} : ∀ {k : Nat}, (∀ i : Int, 0 ≤ i → i < k → g i = h i) → SM g k = SM h k
  | 0, _ => rfl
  | k + 1, e => by rw [SM, SM, SM_cong (fun i i0 i1 => e i i0 (by omega)), e k (by omega) (by omega)]
theorem SM_rng {g : Int → Int} {b : Int} (hb : 0 ≤ b) : ∀ {k : Nat}, (∀ i : Int, 0 ≤ i → i < k → 0 ≤ g i ∧ g i ≤ b) → 0 ≤ SM g k ∧ SM g k ≤ k * b
  | 0, _ => by rw [SM]; omega
  | k + 1, e => by
    have ih := SM_rng hb (g := g) (k := k) (fun i i0 i1 => e i i0 (by omega))
    have h := e k (by omega) (by omega)
    rw [SM, show ((k + 1 : Nat) : Int) * b = (k : Int) * b + b by rw [Int.natCast_add, Int.add_mul]; omega]
    omega
/-- all have what they need on n days that begin with w -/
def CA (Y : Sg) (w n : Int) : Prop := ∀ f : Int, 0 ≤ f → f < Y.1 0 → NV Y 3 w (Y.2 4) n f
